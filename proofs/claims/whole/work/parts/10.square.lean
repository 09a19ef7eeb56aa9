def rX6_trace (k : Nat)  (σ : Sg) : Int64 := (σ.2 k 0) + (σ.2 k 3)
set_option maxRecDepth 100000 in
set_option maxHeartbeats 4000000 in
theorem ev_X6_trace {l : Launch} {b : Nat} {cy : Nat → ClassId} {D : va_G} {d : Nat} {k : Nat}  {σ : Sg} (hk : Sq k)  : Es l b cy D (d + 0) yX6_trace cX6_trace (Option.some Jvm.ClassFile.FieldType.long) 1 [.ref (b + k)] σ (some (.long (rX6_trace k σ))) σ := by
  refine Ev.of (by decide) (Nat.le_of_ble_eq_true rfl) rfl ?_
  refine g_aload_n (pc' := 1) dX6_trace_0 rfl 0 rfl rfl ?_
  refine g_getL (pc' := 4) dX6_trace_1 rfl (PLk.lf fX6_9) hk rfl ?_
  refine g_aload_n (pc' := 5) dX6_trace_4 rfl 0 rfl rfl ?_
  refine g_getL (pc' := 8) dX6_trace_5 rfl (PLk.lf fX6_21) hk rfl ?_
  refine g_ladd (pc' := 9) dX6_trace_8 rfl ?_
  exact g_lret dX6_trace_9 rfl ⟨rfl, rfl⟩ rfl
def sX6_set (k : Nat) (x1 : Int64) (x2 : Int64) (x3 : Int64) (x4 : Int64) (σ : Sg) : Sg := (σ.1, u2 (u2 (u2 (u2 σ.2 k 0 x1) k 1 x2) k 2 x3) k 3 x4)
set_option maxRecDepth 100000 in
set_option maxHeartbeats 4000000 in
theorem ev_X6_set {l : Launch} {b : Nat} {cy : Nat → ClassId} {D : va_G} {d : Nat} {k : Nat} {x1 : Int64} {x2 : Int64} {x3 : Int64} {x4 : Int64} {σ : Sg} (hk : Sq k)  : Es l b cy D (d + 0) yX6_set cX6_set (Option.none : Option Jvm.ClassFile.FieldType) 9 [.ref (b + k), .long (x1), .long (x2), .long (x3), .long (x4)] σ none (sX6_set k x1 x2 x3 x4 σ) := by
  refine Ev.of (by decide) (Nat.le_of_ble_eq_true rfl) rfl ?_
  refine g_aload_n (pc' := 1) dX6_set_0 rfl 0 rfl rfl ?_
  refine g_lload_n (pc' := 2) dX6_set_1 rfl 1 rfl rfl ?_
  refine g_putL (pc' := 5) dX6_set_2 rfl fX6_9 hk rfl ?_
  refine g_aload_n (pc' := 6) dX6_set_5 rfl 0 rfl rfl ?_
  refine g_lload_n (pc' := 7) dX6_set_6 rfl 2 rfl rfl ?_
  refine g_putL (pc' := 10) dX6_set_7 rfl fX6_15 hk rfl ?_
  refine g_aload_n (pc' := 11) dX6_set_10 rfl 0 rfl rfl ?_
  refine g_lload (pc' := 13) dX6_set_11 rfl 3 rfl ?_
  refine g_putL (pc' := 16) dX6_set_13 rfl fX6_18 hk rfl ?_
  refine g_aload_n (pc' := 17) dX6_set_16 rfl 0 rfl rfl ?_
  refine g_lload (pc' := 19) dX6_set_17 rfl 4 rfl ?_
  refine g_putL (pc' := 22) dX6_set_19 rfl fX6_21 hk rfl ?_
  exact g_vret dX6_set_22 rfl ⟨rfl, rfl⟩ rfl
def sX6_setOne (k : Nat)  (σ : Sg) : Sg := sX6_set k 1 0 0 1 σ
set_option maxRecDepth 100000 in
set_option maxHeartbeats 4000000 in
theorem ev_X6_setOne {l : Launch} {b : Nat} {cy : Nat → ClassId} {D : va_G} {d : Nat} {k : Nat}  {σ : Sg} (hk : Sq k)  : Es l b cy D (d + 1) yX6_setOne cX6_setOne (Option.none : Option Jvm.ClassFile.FieldType) 1 [.ref (b + k)] σ none (sX6_setOne k σ) := by
  refine Ev.of (by decide) (Nat.le_of_ble_eq_true rfl) rfl ?_
  refine g_aload_n (pc' := 1) dX6_setOne_0 rfl 0 rfl rfl ?_
  refine g_lconst (pc' := 2) (v := 1) dX6_setOne_1 rfl (by decide) ?_
  refine g_lconst (pc' := 3) (v := 0) dX6_setOne_2 rfl (by decide) ?_
  refine g_lconst (pc' := 4) (v := 0) dX6_setOne_3 rfl (by decide) ?_
  refine g_lconst (pc' := 5) (v := 1) dX6_setOne_4 rfl (by decide) ?_
  refine g_callv (pc' := 8) dX6_setOne_5 rfl mX6_24 (ev_X6_set (k := k) (x1 := 1) (x2 := 0) (x3 := 0) (x4 := 1) (σ := σ) hk (d := d)) hk rfl (rm_ok (by omega) (by decide)) ⟨rfl, rfl⟩ ⟨Nat.zero_le _, Nat.zero_le _⟩ rfl rfl (Nat.le_of_ble_eq_true rfl) ?_
  exact g_vret dX6_setOne_8 rfl ⟨rfl, rfl⟩ rfl
def sX6_turnBack (k : Nat)  (σ : Sg) : Sg := sX6_set k (σ.2 k 3) (-(σ.2 k 1)) (-(σ.2 k 2)) (σ.2 k 0) σ
set_option maxRecDepth 100000 in
set_option maxHeartbeats 4000000 in
theorem ev_X6_turnBack {l : Launch} {b : Nat} {cy : Nat → ClassId} {D : va_G} {d : Nat} {k : Nat}  {σ : Sg} (hk : Sq k)  : Es l b cy D (d + 1) yX6_turnBack cX6_turnBack (Option.none : Option Jvm.ClassFile.FieldType) 1 [.ref (b + k)] σ none (sX6_turnBack k σ) := by
  refine Ev.of (by decide) (Nat.le_of_ble_eq_true rfl) rfl ?_
  refine g_aload_n (pc' := 1) dX6_turnBack_0 rfl 0 rfl rfl ?_
  refine g_aload_n (pc' := 2) dX6_turnBack_1 rfl 0 rfl rfl ?_
  refine g_getL (pc' := 5) dX6_turnBack_2 rfl (PLk.lf fX6_21) hk rfl ?_
  refine g_aload_n (pc' := 6) dX6_turnBack_5 rfl 0 rfl rfl ?_
  refine g_getL (pc' := 9) dX6_turnBack_6 rfl (PLk.lf fX6_15) hk rfl ?_
  refine g_lneg (pc' := 10) dX6_turnBack_9 rfl ?_
  refine g_aload_n (pc' := 11) dX6_turnBack_10 rfl 0 rfl rfl ?_
  refine g_getL (pc' := 14) dX6_turnBack_11 rfl (PLk.lf fX6_18) hk rfl ?_
  refine g_lneg (pc' := 15) dX6_turnBack_14 rfl ?_
  refine g_aload_n (pc' := 16) dX6_turnBack_15 rfl 0 rfl rfl ?_
  refine g_getL (pc' := 19) dX6_turnBack_16 rfl (PLk.lf fX6_9) hk rfl ?_
  refine g_callv (pc' := 22) dX6_turnBack_19 rfl mX6_24 (ev_X6_set (k := k) (x1 := σ.2 k 3) (x2 := -(σ.2 k 1)) (x3 := -(σ.2 k 2)) (x4 := σ.2 k 0) (σ := σ) hk (d := d)) hk rfl (rm_ok (by omega) (by decide)) ⟨rfl, rfl⟩ ⟨Nat.zero_le _, Nat.zero_le _⟩ rfl rfl (Nat.le_of_ble_eq_true rfl) ?_
  exact g_vret dX6_turnBack_22 rfl ⟨rfl, rfl⟩ rfl
def sX6_changeSigns (k : Nat)  (σ : Sg) : Sg := sX6_set k (-(σ.2 k 0)) (-(σ.2 k 1)) (-(σ.2 k 2)) (-(σ.2 k 3)) σ
set_option maxRecDepth 100000 in
set_option maxHeartbeats 4000000 in
theorem ev_X6_changeSigns {l : Launch} {b : Nat} {cy : Nat → ClassId} {D : va_G} {d : Nat} {k : Nat}  {σ : Sg} (hk : Sq k)  : Es l b cy D (d + 1) yX6_changeSigns cX6_changeSigns (Option.none : Option Jvm.ClassFile.FieldType) 1 [.ref (b + k)] σ none (sX6_changeSigns k σ) := by
  refine Ev.of (by decide) (Nat.le_of_ble_eq_true rfl) rfl ?_
  refine g_aload_n (pc' := 1) dX6_changeSigns_0 rfl 0 rfl rfl ?_
  refine g_aload_n (pc' := 2) dX6_changeSigns_1 rfl 0 rfl rfl ?_
  refine g_getL (pc' := 5) dX6_changeSigns_2 rfl (PLk.lf fX6_9) hk rfl ?_
  refine g_lneg (pc' := 6) dX6_changeSigns_5 rfl ?_
  refine g_aload_n (pc' := 7) dX6_changeSigns_6 rfl 0 rfl rfl ?_
  refine g_getL (pc' := 10) dX6_changeSigns_7 rfl (PLk.lf fX6_15) hk rfl ?_
  refine g_lneg (pc' := 11) dX6_changeSigns_10 rfl ?_
  refine g_aload_n (pc' := 12) dX6_changeSigns_11 rfl 0 rfl rfl ?_
  refine g_getL (pc' := 15) dX6_changeSigns_12 rfl (PLk.lf fX6_18) hk rfl ?_
  refine g_lneg (pc' := 16) dX6_changeSigns_15 rfl ?_
  refine g_aload_n (pc' := 17) dX6_changeSigns_16 rfl 0 rfl rfl ?_
  refine g_getL (pc' := 20) dX6_changeSigns_17 rfl (PLk.lf fX6_21) hk rfl ?_
  refine g_lneg (pc' := 21) dX6_changeSigns_20 rfl ?_
  refine g_callv (pc' := 24) dX6_changeSigns_21 rfl mX6_24 (ev_X6_set (k := k) (x1 := -(σ.2 k 0)) (x2 := -(σ.2 k 1)) (x3 := -(σ.2 k 2)) (x4 := -(σ.2 k 3)) (σ := σ) hk (d := d)) hk rfl (rm_ok (by omega) (by decide)) ⟨rfl, rfl⟩ ⟨Nat.zero_le _, Nat.zero_le _⟩ rfl rfl (Nat.le_of_ble_eq_true rfl) ?_
  exact g_vret dX6_changeSigns_24 rfl ⟨rfl, rfl⟩ rfl
def sX6_mirror (k : Nat)  (σ : Sg) : Sg := sX6_set k (σ.2 k 0) (-(σ.2 k 1)) (-(σ.2 k 2)) (σ.2 k 3) σ
set_option maxRecDepth 100000 in
set_option maxHeartbeats 4000000 in
theorem ev_X6_mirror {l : Launch} {b : Nat} {cy : Nat → ClassId} {D : va_G} {d : Nat} {k : Nat}  {σ : Sg} (hk : Sq k)  : Es l b cy D (d + 1) yX6_mirror cX6_mirror (Option.none : Option Jvm.ClassFile.FieldType) 1 [.ref (b + k)] σ none (sX6_mirror k σ) := by
  refine Ev.of (by decide) (Nat.le_of_ble_eq_true rfl) rfl ?_
  refine g_aload_n (pc' := 1) dX6_mirror_0 rfl 0 rfl rfl ?_
  refine g_aload_n (pc' := 2) dX6_mirror_1 rfl 0 rfl rfl ?_
  refine g_getL (pc' := 5) dX6_mirror_2 rfl (PLk.lf fX6_9) hk rfl ?_
  refine g_aload_n (pc' := 6) dX6_mirror_5 rfl 0 rfl rfl ?_
  refine g_getL (pc' := 9) dX6_mirror_6 rfl (PLk.lf fX6_15) hk rfl ?_
  refine g_lneg (pc' := 10) dX6_mirror_9 rfl ?_
  refine g_aload_n (pc' := 11) dX6_mirror_10 rfl 0 rfl rfl ?_
  refine g_getL (pc' := 14) dX6_mirror_11 rfl (PLk.lf fX6_18) hk rfl ?_
  refine g_lneg (pc' := 15) dX6_mirror_14 rfl ?_
  refine g_aload_n (pc' := 16) dX6_mirror_15 rfl 0 rfl rfl ?_
  refine g_getL (pc' := 19) dX6_mirror_16 rfl (PLk.lf fX6_21) hk rfl ?_
  refine g_callv (pc' := 22) dX6_mirror_19 rfl mX6_24 (ev_X6_set (k := k) (x1 := σ.2 k 0) (x2 := -(σ.2 k 1)) (x3 := -(σ.2 k 2)) (x4 := σ.2 k 3) (σ := σ) hk (d := d)) hk rfl (rm_ok (by omega) (by decide)) ⟨rfl, rfl⟩ ⟨Nat.zero_le _, Nat.zero_le _⟩ rfl rfl (Nat.le_of_ble_eq_true rfl) ?_
  exact g_vret dX6_mirror_22 rfl ⟨rfl, rfl⟩ rfl
def sX6_carryByR (k : Nat) (x1 : Int64) (σ : Sg) : Sg := (σ.1, u2 (u2 (u2 σ.2 k 1 ((σ.2 k 1) + ((x1 * ((σ.2 k 3) - (σ.2 k 0))) - ((x1 * x1) * (σ.2 k 2))))) k 0 (((u2 σ.2 k 1 ((σ.2 k 1) + ((x1 * ((σ.2 k 3) - (σ.2 k 0))) - ((x1 * x1) * (σ.2 k 2))))) k 0) + (x1 * ((u2 σ.2 k 1 ((σ.2 k 1) + ((x1 * ((σ.2 k 3) - (σ.2 k 0))) - ((x1 * x1) * (σ.2 k 2))))) k 2)))) k 3 (((u2 (u2 σ.2 k 1 ((σ.2 k 1) + ((x1 * ((σ.2 k 3) - (σ.2 k 0))) - ((x1 * x1) * (σ.2 k 2))))) k 0 (((u2 σ.2 k 1 ((σ.2 k 1) + ((x1 * ((σ.2 k 3) - (σ.2 k 0))) - ((x1 * x1) * (σ.2 k 2))))) k 0) + (x1 * ((u2 σ.2 k 1 ((σ.2 k 1) + ((x1 * ((σ.2 k 3) - (σ.2 k 0))) - ((x1 * x1) * (σ.2 k 2))))) k 2)))) k 3) - (x1 * ((u2 (u2 σ.2 k 1 ((σ.2 k 1) + ((x1 * ((σ.2 k 3) - (σ.2 k 0))) - ((x1 * x1) * (σ.2 k 2))))) k 0 (((u2 σ.2 k 1 ((σ.2 k 1) + ((x1 * ((σ.2 k 3) - (σ.2 k 0))) - ((x1 * x1) * (σ.2 k 2))))) k 0) + (x1 * ((u2 σ.2 k 1 ((σ.2 k 1) + ((x1 * ((σ.2 k 3) - (σ.2 k 0))) - ((x1 * x1) * (σ.2 k 2))))) k 2)))) k 2))))
set_option maxRecDepth 100000 in
set_option maxHeartbeats 4000000 in
theorem ev_X6_carryByR {l : Launch} {b : Nat} {cy : Nat → ClassId} {D : va_G} {d : Nat} {k : Nat} {x1 : Int64} {σ : Sg} (hk : Sq k)  : Es l b cy D (d + 0) yX6_carryByR cX6_carryByR (Option.none : Option Jvm.ClassFile.FieldType) 3 [.ref (b + k), .long (x1)] σ none (sX6_carryByR k x1 σ) := by
  refine Ev.of (by decide) (Nat.le_of_ble_eq_true rfl) rfl ?_
  refine g_aload_n (pc' := 1) dX6_carryByR_0 rfl 0 rfl rfl ?_
  refine g_dup (pc' := 2) dX6_carryByR_1 rfl rfl ?_
  refine g_getL (pc' := 5) dX6_carryByR_2 rfl (PLk.lf fX6_15) hk rfl ?_
  refine g_lload_n (pc' := 6) dX6_carryByR_5 rfl 1 rfl rfl ?_
  refine g_aload_n (pc' := 7) dX6_carryByR_6 rfl 0 rfl rfl ?_
  refine g_getL (pc' := 10) dX6_carryByR_7 rfl (PLk.lf fX6_21) hk rfl ?_
  refine g_aload_n (pc' := 11) dX6_carryByR_10 rfl 0 rfl rfl ?_
  refine g_getL (pc' := 14) dX6_carryByR_11 rfl (PLk.lf fX6_9) hk rfl ?_
  refine g_lsub (pc' := 15) dX6_carryByR_14 rfl ?_
  refine g_lmul (pc' := 16) dX6_carryByR_15 rfl ?_
  refine g_lload_n (pc' := 17) dX6_carryByR_16 rfl 1 rfl rfl ?_
  refine g_lload_n (pc' := 18) dX6_carryByR_17 rfl 1 rfl rfl ?_
  refine g_lmul (pc' := 19) dX6_carryByR_18 rfl ?_
  refine g_aload_n (pc' := 20) dX6_carryByR_19 rfl 0 rfl rfl ?_
  refine g_getL (pc' := 23) dX6_carryByR_20 rfl (PLk.lf fX6_18) hk rfl ?_
  refine g_lmul (pc' := 24) dX6_carryByR_23 rfl ?_
  refine g_lsub (pc' := 25) dX6_carryByR_24 rfl ?_
  refine g_ladd (pc' := 26) dX6_carryByR_25 rfl ?_
  refine g_putL (pc' := 29) dX6_carryByR_26 rfl fX6_15 hk rfl ?_
  refine g_aload_n (pc' := 30) dX6_carryByR_29 rfl 0 rfl rfl ?_
  refine g_dup (pc' := 31) dX6_carryByR_30 rfl rfl ?_
  refine g_getL (pc' := 34) dX6_carryByR_31 rfl (PLk.lf fX6_9) hk rfl ?_
  refine g_lload_n (pc' := 35) dX6_carryByR_34 rfl 1 rfl rfl ?_
  refine g_aload_n (pc' := 36) dX6_carryByR_35 rfl 0 rfl rfl ?_
  refine g_getL (pc' := 39) dX6_carryByR_36 rfl (PLk.lf fX6_18) hk rfl ?_
  refine g_lmul (pc' := 40) dX6_carryByR_39 rfl ?_
  refine g_ladd (pc' := 41) dX6_carryByR_40 rfl ?_
  refine g_putL (pc' := 44) dX6_carryByR_41 rfl fX6_9 hk rfl ?_
  refine g_aload_n (pc' := 45) dX6_carryByR_44 rfl 0 rfl rfl ?_
  refine g_dup (pc' := 46) dX6_carryByR_45 rfl rfl ?_
  refine g_getL (pc' := 49) dX6_carryByR_46 rfl (PLk.lf fX6_21) hk rfl ?_
  refine g_lload_n (pc' := 50) dX6_carryByR_49 rfl 1 rfl rfl ?_
  refine g_aload_n (pc' := 51) dX6_carryByR_50 rfl 0 rfl rfl ?_
  refine g_getL (pc' := 54) dX6_carryByR_51 rfl (PLk.lf fX6_18) hk rfl ?_
  refine g_lmul (pc' := 55) dX6_carryByR_54 rfl ?_
  refine g_lsub (pc' := 56) dX6_carryByR_55 rfl ?_
  refine g_putL (pc' := 59) dX6_carryByR_56 rfl fX6_21 hk rfl ?_
  exact g_vret dX6_carryByR_59 rfl ⟨rfl, rfl⟩ rfl
def sX6_carryByL (k : Nat) (x1 : Int64) (σ : Sg) : Sg := (σ.1, u2 (u2 (u2 σ.2 k 2 ((σ.2 k 2) + ((x1 * ((σ.2 k 0) - (σ.2 k 3))) - ((x1 * x1) * (σ.2 k 1))))) k 0 (((u2 σ.2 k 2 ((σ.2 k 2) + ((x1 * ((σ.2 k 0) - (σ.2 k 3))) - ((x1 * x1) * (σ.2 k 1))))) k 0) - (x1 * ((u2 σ.2 k 2 ((σ.2 k 2) + ((x1 * ((σ.2 k 0) - (σ.2 k 3))) - ((x1 * x1) * (σ.2 k 1))))) k 1)))) k 3 (((u2 (u2 σ.2 k 2 ((σ.2 k 2) + ((x1 * ((σ.2 k 0) - (σ.2 k 3))) - ((x1 * x1) * (σ.2 k 1))))) k 0 (((u2 σ.2 k 2 ((σ.2 k 2) + ((x1 * ((σ.2 k 0) - (σ.2 k 3))) - ((x1 * x1) * (σ.2 k 1))))) k 0) - (x1 * ((u2 σ.2 k 2 ((σ.2 k 2) + ((x1 * ((σ.2 k 0) - (σ.2 k 3))) - ((x1 * x1) * (σ.2 k 1))))) k 1)))) k 3) + (x1 * ((u2 (u2 σ.2 k 2 ((σ.2 k 2) + ((x1 * ((σ.2 k 0) - (σ.2 k 3))) - ((x1 * x1) * (σ.2 k 1))))) k 0 (((u2 σ.2 k 2 ((σ.2 k 2) + ((x1 * ((σ.2 k 0) - (σ.2 k 3))) - ((x1 * x1) * (σ.2 k 1))))) k 0) - (x1 * ((u2 σ.2 k 2 ((σ.2 k 2) + ((x1 * ((σ.2 k 0) - (σ.2 k 3))) - ((x1 * x1) * (σ.2 k 1))))) k 1)))) k 1))))
set_option maxRecDepth 100000 in
set_option maxHeartbeats 4000000 in
theorem ev_X6_carryByL {l : Launch} {b : Nat} {cy : Nat → ClassId} {D : va_G} {d : Nat} {k : Nat} {x1 : Int64} {σ : Sg} (hk : Sq k)  : Es l b cy D (d + 0) yX6_carryByL cX6_carryByL (Option.none : Option Jvm.ClassFile.FieldType) 3 [.ref (b + k), .long (x1)] σ none (sX6_carryByL k x1 σ) := by
  refine Ev.of (by decide) (Nat.le_of_ble_eq_true rfl) rfl ?_
  refine g_aload_n (pc' := 1) dX6_carryByL_0 rfl 0 rfl rfl ?_
  refine g_dup (pc' := 2) dX6_carryByL_1 rfl rfl ?_
  refine g_getL (pc' := 5) dX6_carryByL_2 rfl (PLk.lf fX6_18) hk rfl ?_
  refine g_lload_n (pc' := 6) dX6_carryByL_5 rfl 1 rfl rfl ?_
  refine g_aload_n (pc' := 7) dX6_carryByL_6 rfl 0 rfl rfl ?_
  refine g_getL (pc' := 10) dX6_carryByL_7 rfl (PLk.lf fX6_9) hk rfl ?_
  refine g_aload_n (pc' := 11) dX6_carryByL_10 rfl 0 rfl rfl ?_
  refine g_getL (pc' := 14) dX6_carryByL_11 rfl (PLk.lf fX6_21) hk rfl ?_
  refine g_lsub (pc' := 15) dX6_carryByL_14 rfl ?_
  refine g_lmul (pc' := 16) dX6_carryByL_15 rfl ?_
  refine g_lload_n (pc' := 17) dX6_carryByL_16 rfl 1 rfl rfl ?_
  refine g_lload_n (pc' := 18) dX6_carryByL_17 rfl 1 rfl rfl ?_
  refine g_lmul (pc' := 19) dX6_carryByL_18 rfl ?_
  refine g_aload_n (pc' := 20) dX6_carryByL_19 rfl 0 rfl rfl ?_
  refine g_getL (pc' := 23) dX6_carryByL_20 rfl (PLk.lf fX6_15) hk rfl ?_
  refine g_lmul (pc' := 24) dX6_carryByL_23 rfl ?_
  refine g_lsub (pc' := 25) dX6_carryByL_24 rfl ?_
  refine g_ladd (pc' := 26) dX6_carryByL_25 rfl ?_
  refine g_putL (pc' := 29) dX6_carryByL_26 rfl fX6_18 hk rfl ?_
  refine g_aload_n (pc' := 30) dX6_carryByL_29 rfl 0 rfl rfl ?_
  refine g_dup (pc' := 31) dX6_carryByL_30 rfl rfl ?_
  refine g_getL (pc' := 34) dX6_carryByL_31 rfl (PLk.lf fX6_9) hk rfl ?_
  refine g_lload_n (pc' := 35) dX6_carryByL_34 rfl 1 rfl rfl ?_
  refine g_aload_n (pc' := 36) dX6_carryByL_35 rfl 0 rfl rfl ?_
  refine g_getL (pc' := 39) dX6_carryByL_36 rfl (PLk.lf fX6_15) hk rfl ?_
  refine g_lmul (pc' := 40) dX6_carryByL_39 rfl ?_
  refine g_lsub (pc' := 41) dX6_carryByL_40 rfl ?_
  refine g_putL (pc' := 44) dX6_carryByL_41 rfl fX6_9 hk rfl ?_
  refine g_aload_n (pc' := 45) dX6_carryByL_44 rfl 0 rfl rfl ?_
  refine g_dup (pc' := 46) dX6_carryByL_45 rfl rfl ?_
  refine g_getL (pc' := 49) dX6_carryByL_46 rfl (PLk.lf fX6_21) hk rfl ?_
  refine g_lload_n (pc' := 50) dX6_carryByL_49 rfl 1 rfl rfl ?_
  refine g_aload_n (pc' := 51) dX6_carryByL_50 rfl 0 rfl rfl ?_
  refine g_getL (pc' := 54) dX6_carryByL_51 rfl (PLk.lf fX6_15) hk rfl ?_
  refine g_lmul (pc' := 55) dX6_carryByL_54 rfl ?_
  refine g_ladd (pc' := 56) dX6_carryByL_55 rfl ?_
  refine g_putL (pc' := 59) dX6_carryByL_56 rfl fX6_21 hk rfl ?_
  exact g_vret dX6_carryByL_59 rfl ⟨rfl, rfl⟩ rfl
def sX6_carryByS (k : Nat)  (σ : Sg) : Sg := (σ.1, u2 (u2 (u2 (u2 σ.2 k 0 (σ.2 k 3)) k 1 (-((u2 σ.2 k 0 (σ.2 k 3)) k 2))) k 2 (-(σ.2 k 1))) k 3 (σ.2 k 0))
set_option maxRecDepth 100000 in
set_option maxHeartbeats 4000000 in
theorem ev_X6_carryByS {l : Launch} {b : Nat} {cy : Nat → ClassId} {D : va_G} {d : Nat} {k : Nat}  {σ : Sg} (hk : Sq k)  : Es l b cy D (d + 0) yX6_carryByS cX6_carryByS (Option.none : Option Jvm.ClassFile.FieldType) 5 [.ref (b + k)] σ none (sX6_carryByS k σ) := by
  refine Ev.of (by decide) (Nat.le_of_ble_eq_true rfl) rfl ?_
  refine g_aload_n (pc' := 1) dX6_carryByS_0 rfl 0 rfl rfl ?_
  refine g_getL (pc' := 4) dX6_carryByS_1 rfl (PLk.lf fX6_9) hk rfl ?_
  refine g_lstore_n (pc' := 5) (j := 1) (lv' := [(1, .long (σ.2 k 0)), (0, .ref (b + k))]) dX6_carryByS_4 rfl rfl (by decide) rfl ?_
  refine g_aload_n (pc' := 6) dX6_carryByS_5 rfl 1 rfl rfl ?_
  refine g_getL (pc' := 9) dX6_carryByS_6 rfl (PLk.lf fX6_15) hk rfl ?_
  refine g_lstore_n (pc' := 10) (j := 3) (lv' := [(3, .long (σ.2 k 1)), (1, .long (σ.2 k 0)), (0, .ref (b + k))]) dX6_carryByS_9 rfl rfl (by decide) rfl ?_
  refine g_aload_n (pc' := 11) dX6_carryByS_10 rfl 2 rfl rfl ?_
  refine g_aload_n (pc' := 12) dX6_carryByS_11 rfl 2 rfl rfl ?_
  refine g_getL (pc' := 15) dX6_carryByS_12 rfl (PLk.lf fX6_21) hk rfl ?_
  refine g_putL (pc' := 18) dX6_carryByS_15 rfl fX6_9 hk rfl ?_
  refine g_aload_n (pc' := 19) dX6_carryByS_18 rfl 2 rfl rfl ?_
  refine g_aload_n (pc' := 20) dX6_carryByS_19 rfl 2 rfl rfl ?_
  refine g_getL (pc' := 23) dX6_carryByS_20 rfl (PLk.lf fX6_18) hk rfl ?_
  refine g_lneg (pc' := 24) dX6_carryByS_23 rfl ?_
  refine g_putL (pc' := 27) dX6_carryByS_24 rfl fX6_15 hk rfl ?_
  refine g_aload_n (pc' := 28) dX6_carryByS_27 rfl 2 rfl rfl ?_
  refine g_lload_n (pc' := 29) dX6_carryByS_28 rfl 0 rfl rfl ?_
  refine g_lneg (pc' := 30) dX6_carryByS_29 rfl ?_
  refine g_putL (pc' := 33) dX6_carryByS_30 rfl fX6_18 hk rfl ?_
  refine g_aload_n (pc' := 34) dX6_carryByS_33 rfl 2 rfl rfl ?_
  refine g_lload_n (pc' := 35) dX6_carryByS_34 rfl 1 rfl rfl ?_
  refine g_putL (pc' := 38) dX6_carryByS_35 rfl fX6_21 hk rfl ?_
  exact g_vret dX6_carryByS_38 rfl ⟨rfl, rfl⟩ rfl
def rX6_hasAreaOne (k : Nat)  (σ : Sg) : Bool := if (((σ.2 k 0) * (σ.2 k 3)) - ((σ.2 k 1) * (σ.2 k 2)) : Int64) = 1 then true else false
set_option maxRecDepth 100000 in
set_option maxHeartbeats 4000000 in
theorem ev_X6_hasAreaOne {l : Launch} {b : Nat} {cy : Nat → ClassId} {D : va_G} {d : Nat} {k : Nat}  {σ : Sg} (hk : Sq k)  : Es l b cy D (d + 0) yX6_hasAreaOne cX6_hasAreaOne (Option.some Jvm.ClassFile.FieldType.boolean) 1 [.ref (b + k)] σ (some (.int (bI (rX6_hasAreaOne k σ)))) σ := by
  refine Ev.of (by decide) (Nat.le_of_ble_eq_true rfl) rfl ?_
  refine g_aload_n (pc' := 1) dX6_hasAreaOne_0 rfl 0 rfl rfl ?_
  refine g_getL (pc' := 4) dX6_hasAreaOne_1 rfl (PLk.lf fX6_9) hk rfl ?_
  refine g_aload_n (pc' := 5) dX6_hasAreaOne_4 rfl 0 rfl rfl ?_
  refine g_getL (pc' := 8) dX6_hasAreaOne_5 rfl (PLk.lf fX6_21) hk rfl ?_
  refine g_lmul (pc' := 9) dX6_hasAreaOne_8 rfl ?_
  refine g_aload_n (pc' := 10) dX6_hasAreaOne_9 rfl 0 rfl rfl ?_
  refine g_getL (pc' := 13) dX6_hasAreaOne_10 rfl (PLk.lf fX6_15) hk rfl ?_
  refine g_aload_n (pc' := 14) dX6_hasAreaOne_13 rfl 0 rfl rfl ?_
  refine g_getL (pc' := 17) dX6_hasAreaOne_14 rfl (PLk.lf fX6_18) hk rfl ?_
  refine g_lmul (pc' := 18) dX6_hasAreaOne_17 rfl ?_
  refine g_lsub (pc' := 19) dX6_hasAreaOne_18 rfl ?_
  refine g_lconst (pc' := 20) (v := 1) dX6_hasAreaOne_19 rfl (by decide) ?_
  refine g_lif_ne (pc' := 24) (tgt := 28) dX6_hasAreaOne_20 dX6_hasAreaOne_21 rfl (by decide) (fun (c1 : ¬ (((σ.2 k 0) * (σ.2 k 3)) - ((σ.2 k 1) * (σ.2 k 2)) : Int64) = 1) => ?_) (fun (c1 : (((σ.2 k 0) * (σ.2 k 3)) - ((σ.2 k 1) * (σ.2 k 2)) : Int64) = 1) => ?_)
  · refine g_iconst (pc' := 29) (v := 0) dX6_hasAreaOne_28 rfl (by decide) ?_
    exact g_zret dX6_hasAreaOne_29 rfl (Or.inl rfl) ⟨rfl, rfl⟩ (by simp only [rX6_hasAreaOne, if_neg c1, bI_t, bI_f])
  · refine g_iconst (pc' := 25) (v := 1) dX6_hasAreaOne_24 rfl (by decide) ?_
    refine g_goto (tgt := 29) dX6_hasAreaOne_25 (by decide) ?_
    exact g_zret dX6_hasAreaOne_29 rfl (Or.inr rfl) ⟨rfl, rfl⟩ (by simp only [rX6_hasAreaOne, if_pos c1, bI_t, bI_f])
def rX6_isOne (k : Nat)  (σ : Sg) : Bool := if (σ.2 k 0 : Int64) = 1 then if (σ.2 k 1 : Int64) = 0 then if (σ.2 k 2 : Int64) = 0 then if (σ.2 k 3 : Int64) = 1 then true else false else false else false else false
set_option maxRecDepth 100000 in
set_option maxHeartbeats 4000000 in
theorem ev_X6_isOne {l : Launch} {b : Nat} {cy : Nat → ClassId} {D : va_G} {d : Nat} {k : Nat}  {σ : Sg} (hk : Sq k)  : Es l b cy D (d + 0) yX6_isOne cX6_isOne (Option.some Jvm.ClassFile.FieldType.boolean) 1 [.ref (b + k)] σ (some (.int (bI (rX6_isOne k σ)))) σ := by
  refine Ev.of (by decide) (Nat.le_of_ble_eq_true rfl) rfl ?_
  refine g_aload_n (pc' := 1) dX6_isOne_0 rfl 0 rfl rfl ?_
  refine g_getL (pc' := 4) dX6_isOne_1 rfl (PLk.lf fX6_9) hk rfl ?_
  refine g_lconst (pc' := 5) (v := 1) dX6_isOne_4 rfl (by decide) ?_
  refine g_lif_ne (pc' := 9) (tgt := 40) dX6_isOne_5 dX6_isOne_6 rfl (by decide) (fun (c1 : ¬ (σ.2 k 0 : Int64) = 1) => ?_) (fun (c1 : (σ.2 k 0 : Int64) = 1) => ?_)
  · refine g_iconst (pc' := 41) (v := 0) dX6_isOne_40 rfl (by decide) ?_
    exact g_zret dX6_isOne_41 rfl (Or.inl rfl) ⟨rfl, rfl⟩ (by simp only [rX6_isOne, if_neg c1, bI_t, bI_f])
  · refine g_aload_n (pc' := 10) dX6_isOne_9 rfl 0 rfl rfl ?_
    refine g_getL (pc' := 13) dX6_isOne_10 rfl (PLk.lf fX6_15) hk rfl ?_
    refine g_lconst (pc' := 14) (v := 0) dX6_isOne_13 rfl (by decide) ?_
    refine g_lif_ne (pc' := 18) (tgt := 40) dX6_isOne_14 dX6_isOne_15 rfl (by decide) (fun (c2 : ¬ (σ.2 k 1 : Int64) = 0) => ?_) (fun (c2 : (σ.2 k 1 : Int64) = 0) => ?_)
    · refine g_iconst (pc' := 41) (v := 0) dX6_isOne_40 rfl (by decide) ?_
      exact g_zret dX6_isOne_41 rfl (Or.inl rfl) ⟨rfl, rfl⟩ (by simp only [rX6_isOne, if_pos c1, if_neg c2, bI_t, bI_f])
    · refine g_aload_n (pc' := 19) dX6_isOne_18 rfl 0 rfl rfl ?_
      refine g_getL (pc' := 22) dX6_isOne_19 rfl (PLk.lf fX6_18) hk rfl ?_
      refine g_lconst (pc' := 23) (v := 0) dX6_isOne_22 rfl (by decide) ?_
      refine g_lif_ne (pc' := 27) (tgt := 40) dX6_isOne_23 dX6_isOne_24 rfl (by decide) (fun (c3 : ¬ (σ.2 k 2 : Int64) = 0) => ?_) (fun (c3 : (σ.2 k 2 : Int64) = 0) => ?_)
      · refine g_iconst (pc' := 41) (v := 0) dX6_isOne_40 rfl (by decide) ?_
        exact g_zret dX6_isOne_41 rfl (Or.inl rfl) ⟨rfl, rfl⟩ (by simp only [rX6_isOne, if_pos c1, if_pos c2, if_neg c3, bI_t, bI_f])
      · refine g_aload_n (pc' := 28) dX6_isOne_27 rfl 0 rfl rfl ?_
        refine g_getL (pc' := 31) dX6_isOne_28 rfl (PLk.lf fX6_21) hk rfl ?_
        refine g_lconst (pc' := 32) (v := 1) dX6_isOne_31 rfl (by decide) ?_
        refine g_lif_ne (pc' := 36) (tgt := 40) dX6_isOne_32 dX6_isOne_33 rfl (by decide) (fun (c4 : ¬ (σ.2 k 3 : Int64) = 1) => ?_) (fun (c4 : (σ.2 k 3 : Int64) = 1) => ?_)
        · refine g_iconst (pc' := 41) (v := 0) dX6_isOne_40 rfl (by decide) ?_
          exact g_zret dX6_isOne_41 rfl (Or.inl rfl) ⟨rfl, rfl⟩ (by simp only [rX6_isOne, if_pos c1, if_pos c2, if_pos c3, if_neg c4, bI_t, bI_f])
        · refine g_iconst (pc' := 37) (v := 1) dX6_isOne_36 rfl (by decide) ?_
          refine g_goto (tgt := 41) dX6_isOne_37 (by decide) ?_
          exact g_zret dX6_isOne_41 rfl (Or.inr rfl) ⟨rfl, rfl⟩ (by simp only [rX6_isOne, if_pos c1, if_pos c2, if_pos c3, if_pos c4, bI_t, bI_f])
def rX6_hasNoneBelowZero (k : Nat)  (σ : Sg) : Bool := if (σ.2 k 0 : Int64) < 0 then false else if (σ.2 k 1 : Int64) < 0 then false else if (σ.2 k 2 : Int64) < 0 then false else if (σ.2 k 3 : Int64) < 0 then false else true
set_option maxRecDepth 100000 in
set_option maxHeartbeats 4000000 in
theorem ev_X6_hasNoneBelowZero {l : Launch} {b : Nat} {cy : Nat → ClassId} {D : va_G} {d : Nat} {k : Nat}  {σ : Sg} (hk : Sq k)  : Es l b cy D (d + 0) yX6_hasNoneBelowZero cX6_hasNoneBelowZero (Option.some Jvm.ClassFile.FieldType.boolean) 1 [.ref (b + k)] σ (some (.int (bI (rX6_hasNoneBelowZero k σ)))) σ := by
  refine Ev.of (by decide) (Nat.le_of_ble_eq_true rfl) rfl ?_
  refine g_aload_n (pc' := 1) dX6_hasNoneBelowZero_0 rfl 0 rfl rfl ?_
  refine g_getL (pc' := 4) dX6_hasNoneBelowZero_1 rfl (PLk.lf fX6_9) hk rfl ?_
  refine g_lconst (pc' := 5) (v := 0) dX6_hasNoneBelowZero_4 rfl (by decide) ?_
  refine g_lif_lt (pc' := 9) (tgt := 40) dX6_hasNoneBelowZero_5 dX6_hasNoneBelowZero_6 rfl (by decide) (fun (c1 : (σ.2 k 0 : Int64) < 0) => ?_) (fun (c1 : ¬ (σ.2 k 0 : Int64) < 0) => ?_)
  · refine g_iconst (pc' := 41) (v := 0) dX6_hasNoneBelowZero_40 rfl (by decide) ?_
    exact g_zret dX6_hasNoneBelowZero_41 rfl (Or.inl rfl) ⟨rfl, rfl⟩ (by simp only [rX6_hasNoneBelowZero, if_pos c1, bI_t, bI_f])
  · refine g_aload_n (pc' := 10) dX6_hasNoneBelowZero_9 rfl 0 rfl rfl ?_
    refine g_getL (pc' := 13) dX6_hasNoneBelowZero_10 rfl (PLk.lf fX6_15) hk rfl ?_
    refine g_lconst (pc' := 14) (v := 0) dX6_hasNoneBelowZero_13 rfl (by decide) ?_
    refine g_lif_lt (pc' := 18) (tgt := 40) dX6_hasNoneBelowZero_14 dX6_hasNoneBelowZero_15 rfl (by decide) (fun (c2 : (σ.2 k 1 : Int64) < 0) => ?_) (fun (c2 : ¬ (σ.2 k 1 : Int64) < 0) => ?_)
    · refine g_iconst (pc' := 41) (v := 0) dX6_hasNoneBelowZero_40 rfl (by decide) ?_
      exact g_zret dX6_hasNoneBelowZero_41 rfl (Or.inl rfl) ⟨rfl, rfl⟩ (by simp only [rX6_hasNoneBelowZero, if_neg c1, if_pos c2, bI_t, bI_f])
    · refine g_aload_n (pc' := 19) dX6_hasNoneBelowZero_18 rfl 0 rfl rfl ?_
      refine g_getL (pc' := 22) dX6_hasNoneBelowZero_19 rfl (PLk.lf fX6_18) hk rfl ?_
      refine g_lconst (pc' := 23) (v := 0) dX6_hasNoneBelowZero_22 rfl (by decide) ?_
      refine g_lif_lt (pc' := 27) (tgt := 40) dX6_hasNoneBelowZero_23 dX6_hasNoneBelowZero_24 rfl (by decide) (fun (c3 : (σ.2 k 2 : Int64) < 0) => ?_) (fun (c3 : ¬ (σ.2 k 2 : Int64) < 0) => ?_)
      · refine g_iconst (pc' := 41) (v := 0) dX6_hasNoneBelowZero_40 rfl (by decide) ?_
        exact g_zret dX6_hasNoneBelowZero_41 rfl (Or.inl rfl) ⟨rfl, rfl⟩ (by simp only [rX6_hasNoneBelowZero, if_neg c1, if_neg c2, if_pos c3, bI_t, bI_f])
      · refine g_aload_n (pc' := 28) dX6_hasNoneBelowZero_27 rfl 0 rfl rfl ?_
        refine g_getL (pc' := 31) dX6_hasNoneBelowZero_28 rfl (PLk.lf fX6_21) hk rfl ?_
        refine g_lconst (pc' := 32) (v := 0) dX6_hasNoneBelowZero_31 rfl (by decide) ?_
        refine g_lif_lt (pc' := 36) (tgt := 40) dX6_hasNoneBelowZero_32 dX6_hasNoneBelowZero_33 rfl (by decide) (fun (c4 : (σ.2 k 3 : Int64) < 0) => ?_) (fun (c4 : ¬ (σ.2 k 3 : Int64) < 0) => ?_)
        · refine g_iconst (pc' := 41) (v := 0) dX6_hasNoneBelowZero_40 rfl (by decide) ?_
          exact g_zret dX6_hasNoneBelowZero_41 rfl (Or.inl rfl) ⟨rfl, rfl⟩ (by simp only [rX6_hasNoneBelowZero, if_neg c1, if_neg c2, if_neg c3, if_pos c4, bI_t, bI_f])
        · refine g_iconst (pc' := 37) (v := 1) dX6_hasNoneBelowZero_36 rfl (by decide) ?_
          refine g_goto (tgt := 41) dX6_hasNoneBelowZero_37 (by decide) ?_
          exact g_zret dX6_hasNoneBelowZero_41 rfl (Or.inr rfl) ⟨rfl, rfl⟩ (by simp only [rX6_hasNoneBelowZero, if_neg c1, if_neg c2, if_neg c3, if_neg c4, bI_t, bI_f])
def rX6_hasLikeSides (k : Nat)  (σ : Sg) : Bool := if (0 : Int64) < (σ.2 k 1) then if (0 : Int64) < (σ.2 k 2) then true else if (σ.2 k 1 : Int64) < 0 then if (σ.2 k 2 : Int64) < 0 then true else false else false else if (σ.2 k 1 : Int64) < 0 then if (σ.2 k 2 : Int64) < 0 then true else false else false
set_option maxRecDepth 100000 in
set_option maxHeartbeats 4000000 in
theorem ev_X6_hasLikeSides {l : Launch} {b : Nat} {cy : Nat → ClassId} {D : va_G} {d : Nat} {k : Nat}  {σ : Sg} (hk : Sq k)  : Es l b cy D (d + 0) yX6_hasLikeSides cX6_hasLikeSides (Option.some Jvm.ClassFile.FieldType.boolean) 1 [.ref (b + k)] σ (some (.int (bI (rX6_hasLikeSides k σ)))) σ := by
  refine Ev.of (by decide) (Nat.le_of_ble_eq_true rfl) rfl ?_
  refine g_aload_n (pc' := 1) dX6_hasLikeSides_0 rfl 0 rfl rfl ?_
  refine g_getL (pc' := 4) dX6_hasLikeSides_1 rfl (PLk.lf fX6_15) hk rfl ?_
  refine g_lconst (pc' := 5) (v := 0) dX6_hasLikeSides_4 rfl (by decide) ?_
  refine g_lif_le (pc' := 9) (tgt := 18) dX6_hasLikeSides_5 dX6_hasLikeSides_6 rfl (by decide) (fun (c1 : ¬ (0 : Int64) < (σ.2 k 1)) => ?_) (fun (c1 : (0 : Int64) < (σ.2 k 1)) => ?_)
  · refine g_aload_n (pc' := 19) dX6_hasLikeSides_18 rfl 0 rfl rfl ?_
    refine g_getL (pc' := 22) dX6_hasLikeSides_19 rfl (PLk.lf fX6_15) hk rfl ?_
    refine g_lconst (pc' := 23) (v := 0) dX6_hasLikeSides_22 rfl (by decide) ?_
    refine g_lif_ge (pc' := 27) (tgt := 40) dX6_hasLikeSides_23 dX6_hasLikeSides_24 rfl (by decide) (fun (c2 : ¬ (σ.2 k 1 : Int64) < 0) => ?_) (fun (c2 : (σ.2 k 1 : Int64) < 0) => ?_)
    · refine g_iconst (pc' := 41) (v := 0) dX6_hasLikeSides_40 rfl (by decide) ?_
      exact g_zret dX6_hasLikeSides_41 rfl (Or.inl rfl) ⟨rfl, rfl⟩ (by simp only [rX6_hasLikeSides, if_neg c1, if_neg c2, bI_t, bI_f])
    · refine g_aload_n (pc' := 28) dX6_hasLikeSides_27 rfl 0 rfl rfl ?_
      refine g_getL (pc' := 31) dX6_hasLikeSides_28 rfl (PLk.lf fX6_18) hk rfl ?_
      refine g_lconst (pc' := 32) (v := 0) dX6_hasLikeSides_31 rfl (by decide) ?_
      refine g_lif_ge (pc' := 36) (tgt := 40) dX6_hasLikeSides_32 dX6_hasLikeSides_33 rfl (by decide) (fun (c3 : ¬ (σ.2 k 2 : Int64) < 0) => ?_) (fun (c3 : (σ.2 k 2 : Int64) < 0) => ?_)
      · refine g_iconst (pc' := 41) (v := 0) dX6_hasLikeSides_40 rfl (by decide) ?_
        exact g_zret dX6_hasLikeSides_41 rfl (Or.inl rfl) ⟨rfl, rfl⟩ (by simp only [rX6_hasLikeSides, if_neg c1, if_pos c2, if_neg c3, bI_t, bI_f])
      · refine g_iconst (pc' := 37) (v := 1) dX6_hasLikeSides_36 rfl (by decide) ?_
        refine g_goto (tgt := 41) dX6_hasLikeSides_37 (by decide) ?_
        exact g_zret dX6_hasLikeSides_41 rfl (Or.inr rfl) ⟨rfl, rfl⟩ (by simp only [rX6_hasLikeSides, if_neg c1, if_pos c2, if_pos c3, bI_t, bI_f])
  · refine g_aload_n (pc' := 10) dX6_hasLikeSides_9 rfl 0 rfl rfl ?_
    refine g_getL (pc' := 13) dX6_hasLikeSides_10 rfl (PLk.lf fX6_18) hk rfl ?_
    refine g_lconst (pc' := 14) (v := 0) dX6_hasLikeSides_13 rfl (by decide) ?_
    refine g_lif_gt (pc' := 18) (tgt := 36) dX6_hasLikeSides_14 dX6_hasLikeSides_15 rfl (by decide) (fun (c4 : (0 : Int64) < (σ.2 k 2)) => ?_) (fun (c4 : ¬ (0 : Int64) < (σ.2 k 2)) => ?_)
    · refine g_iconst (pc' := 37) (v := 1) dX6_hasLikeSides_36 rfl (by decide) ?_
      refine g_goto (tgt := 41) dX6_hasLikeSides_37 (by decide) ?_
      exact g_zret dX6_hasLikeSides_41 rfl (Or.inr rfl) ⟨rfl, rfl⟩ (by simp only [rX6_hasLikeSides, if_pos c1, if_pos c4, bI_t, bI_f])
    · refine g_aload_n (pc' := 19) dX6_hasLikeSides_18 rfl 0 rfl rfl ?_
      refine g_getL (pc' := 22) dX6_hasLikeSides_19 rfl (PLk.lf fX6_15) hk rfl ?_
      refine g_lconst (pc' := 23) (v := 0) dX6_hasLikeSides_22 rfl (by decide) ?_
      refine g_lif_ge (pc' := 27) (tgt := 40) dX6_hasLikeSides_23 dX6_hasLikeSides_24 rfl (by decide) (fun (c5 : ¬ (σ.2 k 1 : Int64) < 0) => ?_) (fun (c5 : (σ.2 k 1 : Int64) < 0) => ?_)
      · refine g_iconst (pc' := 41) (v := 0) dX6_hasLikeSides_40 rfl (by decide) ?_
        exact g_zret dX6_hasLikeSides_41 rfl (Or.inl rfl) ⟨rfl, rfl⟩ (by simp only [rX6_hasLikeSides, if_pos c1, if_neg c4, if_neg c5, bI_t, bI_f])
      · refine g_aload_n (pc' := 28) dX6_hasLikeSides_27 rfl 0 rfl rfl ?_
        refine g_getL (pc' := 31) dX6_hasLikeSides_28 rfl (PLk.lf fX6_18) hk rfl ?_
        refine g_lconst (pc' := 32) (v := 0) dX6_hasLikeSides_31 rfl (by decide) ?_
        refine g_lif_ge (pc' := 36) (tgt := 40) dX6_hasLikeSides_32 dX6_hasLikeSides_33 rfl (by decide) (fun (c6 : ¬ (σ.2 k 2 : Int64) < 0) => ?_) (fun (c6 : (σ.2 k 2 : Int64) < 0) => ?_)
        · refine g_iconst (pc' := 41) (v := 0) dX6_hasLikeSides_40 rfl (by decide) ?_
          exact g_zret dX6_hasLikeSides_41 rfl (Or.inl rfl) ⟨rfl, rfl⟩ (by simp only [rX6_hasLikeSides, if_pos c1, if_neg c4, if_pos c5, if_neg c6, bI_t, bI_f])
        · refine g_iconst (pc' := 37) (v := 1) dX6_hasLikeSides_36 rfl (by decide) ?_
          refine g_goto (tgt := 41) dX6_hasLikeSides_37 (by decide) ?_
          exact g_zret dX6_hasLikeSides_41 rfl (Or.inr rfl) ⟨rfl, rfl⟩ (by simp only [rX6_hasLikeSides, if_pos c1, if_neg c4, if_pos c5, if_pos c6, bI_t, bI_f])
def rX6_isNumber  (x1 : Int64) (σ : Sg) : Bool := if (x1 : Int64) < (-1000000) then false else if (1000000 : Int64) < x1 then false else true
set_option maxRecDepth 100000 in
set_option maxHeartbeats 4000000 in
theorem ev_X6_isNumber {l : Launch} {b : Nat} {cy : Nat → ClassId} {D : va_G} {d : Nat}  {x1 : Int64} {σ : Sg}   : Es l b cy D (d + 0) yX6_isNumber cX6_isNumber (Option.some Jvm.ClassFile.FieldType.boolean) 2 [.long (x1)] σ (some (.int (bI (rX6_isNumber x1 σ)))) σ := by
  refine Ev.of (by decide) (Nat.le_of_ble_eq_true rfl) rfl ?_
  refine g_lload_n (pc' := 1) dX6_isNumber_0 rfl 0 rfl rfl ?_
  refine g_ldc2 (pc' := 4) dX6_isNumber_1 rfl kX6_59 ?_
  refine g_lif_lt (pc' := 8) (tgt := 20) dX6_isNumber_4 dX6_isNumber_5 rfl (by decide) (fun (c1 : (x1 : Int64) < (-1000000)) => ?_) (fun (c1 : ¬ (x1 : Int64) < (-1000000)) => ?_)
  · refine g_iconst (pc' := 21) (v := 0) dX6_isNumber_20 rfl (by decide) ?_
    exact g_zret dX6_isNumber_21 rfl (Or.inl rfl) ⟨rfl, rfl⟩ (by simp only [rX6_isNumber, if_pos c1, bI_t, bI_f])
  · refine g_lload_n (pc' := 9) dX6_isNumber_8 rfl 0 rfl rfl ?_
    refine g_ldc2 (pc' := 12) dX6_isNumber_9 rfl kX6_61 ?_
    refine g_lif_gt (pc' := 16) (tgt := 20) dX6_isNumber_12 dX6_isNumber_13 rfl (by decide) (fun (c2 : (1000000 : Int64) < x1) => ?_) (fun (c2 : ¬ (1000000 : Int64) < x1) => ?_)
    · refine g_iconst (pc' := 21) (v := 0) dX6_isNumber_20 rfl (by decide) ?_
      exact g_zret dX6_isNumber_21 rfl (Or.inl rfl) ⟨rfl, rfl⟩ (by simp only [rX6_isNumber, if_neg c1, if_pos c2, bI_t, bI_f])
    · refine g_iconst (pc' := 17) (v := 1) dX6_isNumber_16 rfl (by decide) ?_
      refine g_goto (tgt := 21) dX6_isNumber_17 (by decide) ?_
      exact g_zret dX6_isNumber_21 rfl (Or.inr rfl) ⟨rfl, rfl⟩ (by simp only [rX6_isNumber, if_neg c1, if_neg c2, bI_t, bI_f])
def rX6_isWithinBounds (k : Nat)  (σ : Sg) : Bool := if (rX6_isNumber (σ.2 k 0) σ) = true then if (rX6_isNumber (σ.2 k 1) σ) = true then if (rX6_isNumber (σ.2 k 2) σ) = true then if (rX6_isNumber (σ.2 k 3) σ) = true then true else false else false else false else false
set_option maxRecDepth 100000 in
set_option maxHeartbeats 4000000 in
theorem ev_X6_isWithinBounds {l : Launch} {b : Nat} {cy : Nat → ClassId} {D : va_G} {d : Nat} {k : Nat}  {σ : Sg} (hk : Sq k)  : Es l b cy D (d + 1) yX6_isWithinBounds cX6_isWithinBounds (Option.some Jvm.ClassFile.FieldType.boolean) 1 [.ref (b + k)] σ (some (.int (bI (rX6_isWithinBounds k σ)))) σ := by
  refine Ev.of (by decide) (Nat.le_of_ble_eq_true rfl) rfl ?_
  refine g_aload_n (pc' := 1) dX6_isWithinBounds_0 rfl 0 rfl rfl ?_
  refine g_getL (pc' := 4) dX6_isWithinBounds_1 rfl (PLk.lf fX6_9) hk rfl ?_
  refine g_callsr (pc' := 7) dX6_isWithinBounds_4 rfl mX6_55 (ev_X6_isNumber (x1 := σ.2 k 0) (σ := σ)  (d := d)) (rm_ok (by omega) (by decide)) ⟨rfl, rfl⟩ ⟨Nat.zero_le _, Nat.zero_le _⟩ rfl rfl (Nat.le_of_ble_eq_true rfl) ?_
  refine g_ifb_eq (pc' := 10) (tgt := 44) dX6_isWithinBounds_7 rfl (by decide) (fun (c1 : (rX6_isNumber (σ.2 k 0) σ) = false) => ?_) (fun (c1 : (rX6_isNumber (σ.2 k 0) σ) = true) => ?_)
  · refine g_iconst (pc' := 45) (v := 0) dX6_isWithinBounds_44 rfl (by decide) ?_
    exact g_zret dX6_isWithinBounds_45 rfl (Or.inl rfl) ⟨rfl, rfl⟩ (by simp only [rX6_isWithinBounds, if_neg (bf c1), bI_t, bI_f])
  · refine g_aload_n (pc' := 11) dX6_isWithinBounds_10 rfl 0 rfl rfl ?_
    refine g_getL (pc' := 14) dX6_isWithinBounds_11 rfl (PLk.lf fX6_15) hk rfl ?_
    refine g_callsr (pc' := 17) dX6_isWithinBounds_14 rfl mX6_55 (ev_X6_isNumber (x1 := σ.2 k 1) (σ := σ)  (d := d)) (rm_ok (by omega) (by decide)) ⟨rfl, rfl⟩ ⟨Nat.zero_le _, Nat.zero_le _⟩ rfl rfl (Nat.le_of_ble_eq_true rfl) ?_
    refine g_ifb_eq (pc' := 20) (tgt := 44) dX6_isWithinBounds_17 rfl (by decide) (fun (c2 : (rX6_isNumber (σ.2 k 1) σ) = false) => ?_) (fun (c2 : (rX6_isNumber (σ.2 k 1) σ) = true) => ?_)
    · refine g_iconst (pc' := 45) (v := 0) dX6_isWithinBounds_44 rfl (by decide) ?_
      exact g_zret dX6_isWithinBounds_45 rfl (Or.inl rfl) ⟨rfl, rfl⟩ (by simp only [rX6_isWithinBounds, if_pos c1, if_neg (bf c2), bI_t, bI_f])
    · refine g_aload_n (pc' := 21) dX6_isWithinBounds_20 rfl 0 rfl rfl ?_
      refine g_getL (pc' := 24) dX6_isWithinBounds_21 rfl (PLk.lf fX6_18) hk rfl ?_
      refine g_callsr (pc' := 27) dX6_isWithinBounds_24 rfl mX6_55 (ev_X6_isNumber (x1 := σ.2 k 2) (σ := σ)  (d := d)) (rm_ok (by omega) (by decide)) ⟨rfl, rfl⟩ ⟨Nat.zero_le _, Nat.zero_le _⟩ rfl rfl (Nat.le_of_ble_eq_true rfl) ?_
      refine g_ifb_eq (pc' := 30) (tgt := 44) dX6_isWithinBounds_27 rfl (by decide) (fun (c3 : (rX6_isNumber (σ.2 k 2) σ) = false) => ?_) (fun (c3 : (rX6_isNumber (σ.2 k 2) σ) = true) => ?_)
      · refine g_iconst (pc' := 45) (v := 0) dX6_isWithinBounds_44 rfl (by decide) ?_
        exact g_zret dX6_isWithinBounds_45 rfl (Or.inl rfl) ⟨rfl, rfl⟩ (by simp only [rX6_isWithinBounds, if_pos c1, if_pos c2, if_neg (bf c3), bI_t, bI_f])
      · refine g_aload_n (pc' := 31) dX6_isWithinBounds_30 rfl 0 rfl rfl ?_
        refine g_getL (pc' := 34) dX6_isWithinBounds_31 rfl (PLk.lf fX6_21) hk rfl ?_
        refine g_callsr (pc' := 37) dX6_isWithinBounds_34 rfl mX6_55 (ev_X6_isNumber (x1 := σ.2 k 3) (σ := σ)  (d := d)) (rm_ok (by omega) (by decide)) ⟨rfl, rfl⟩ ⟨Nat.zero_le _, Nat.zero_le _⟩ rfl rfl (Nat.le_of_ble_eq_true rfl) ?_
        refine g_ifb_eq (pc' := 40) (tgt := 44) dX6_isWithinBounds_37 rfl (by decide) (fun (c4 : (rX6_isNumber (σ.2 k 3) σ) = false) => ?_) (fun (c4 : (rX6_isNumber (σ.2 k 3) σ) = true) => ?_)
        · refine g_iconst (pc' := 45) (v := 0) dX6_isWithinBounds_44 rfl (by decide) ?_
          exact g_zret dX6_isWithinBounds_45 rfl (Or.inl rfl) ⟨rfl, rfl⟩ (by simp only [rX6_isWithinBounds, if_pos c1, if_pos c2, if_pos c3, if_neg (bf c4), bI_t, bI_f])
        · refine g_iconst (pc' := 41) (v := 1) dX6_isWithinBounds_40 rfl (by decide) ?_
          refine g_goto (tgt := 45) dX6_isWithinBounds_41 (by decide) ?_
          exact g_zret dX6_isWithinBounds_45 rfl (Or.inr rfl) ⟨rfl, rfl⟩ (by simp only [rX6_isWithinBounds, if_pos c1, if_pos c2, if_pos c3, if_pos c4, bI_t, bI_f])
def sX6_copyFrom (k : Nat) (i : Nat)  (σ : Sg) : Sg := (σ.1, u2 (u2 (u2 (u2 σ.2 k 0 (σ.2 i 0)) k 1 ((u2 σ.2 k 0 (σ.2 i 0)) i 1)) k 2 ((u2 (u2 σ.2 k 0 (σ.2 i 0)) k 1 ((u2 σ.2 k 0 (σ.2 i 0)) i 1)) i 2)) k 3 ((u2 (u2 (u2 σ.2 k 0 (σ.2 i 0)) k 1 ((u2 σ.2 k 0 (σ.2 i 0)) i 1)) k 2 ((u2 (u2 σ.2 k 0 (σ.2 i 0)) k 1 ((u2 σ.2 k 0 (σ.2 i 0)) i 1)) i 2)) i 3))
set_option maxRecDepth 100000 in
set_option maxHeartbeats 4000000 in
theorem ev_X6_copyFrom {l : Launch} {b : Nat} {cy : Nat → ClassId} {D : va_G} {d : Nat} {k : Nat} {i : Nat}  {σ : Sg} (hk : Sq k) (hi : Sq i)  : Es l b cy D (d + 0) yX6_copyFrom cX6_copyFrom (Option.none : Option Jvm.ClassFile.FieldType) 2 [.ref (b + k), .ref (b + i)] σ none (sX6_copyFrom k i σ) := by
  refine Ev.of (by decide) (Nat.le_of_ble_eq_true rfl) rfl ?_
  refine g_aload_n (pc' := 1) dX6_copyFrom_0 rfl 0 rfl rfl ?_
  refine g_aload_n (pc' := 2) dX6_copyFrom_1 rfl 1 rfl rfl ?_
  refine g_getL (pc' := 5) dX6_copyFrom_2 rfl (PLk.lf fX6_9) hi rfl ?_
  refine g_putL (pc' := 8) dX6_copyFrom_5 rfl fX6_9 hk rfl ?_
  refine g_aload_n (pc' := 9) dX6_copyFrom_8 rfl 0 rfl rfl ?_
  refine g_aload_n (pc' := 10) dX6_copyFrom_9 rfl 1 rfl rfl ?_
  refine g_getL (pc' := 13) dX6_copyFrom_10 rfl (PLk.lf fX6_15) hi rfl ?_
  refine g_putL (pc' := 16) dX6_copyFrom_13 rfl fX6_15 hk rfl ?_
  refine g_aload_n (pc' := 17) dX6_copyFrom_16 rfl 0 rfl rfl ?_
  refine g_aload_n (pc' := 18) dX6_copyFrom_17 rfl 1 rfl rfl ?_
  refine g_getL (pc' := 21) dX6_copyFrom_18 rfl (PLk.lf fX6_18) hi rfl ?_
  refine g_putL (pc' := 24) dX6_copyFrom_21 rfl fX6_18 hk rfl ?_
  refine g_aload_n (pc' := 25) dX6_copyFrom_24 rfl 0 rfl rfl ?_
  refine g_aload_n (pc' := 26) dX6_copyFrom_25 rfl 1 rfl rfl ?_
  refine g_getL (pc' := 29) dX6_copyFrom_26 rfl (PLk.lf fX6_21) hi rfl ?_
  refine g_putL (pc' := 32) dX6_copyFrom_29 rfl fX6_21 hk rfl ?_
  exact g_vret dX6_copyFrom_32 rfl ⟨rfl, rfl⟩ rfl
def rX6_isSameAs (k : Nat) (i : Nat)  (σ : Sg) : Bool := if (σ.2 k 0 : Int64) = (σ.2 i 0) then if (σ.2 k 1 : Int64) = (σ.2 i 1) then if (σ.2 k 2 : Int64) = (σ.2 i 2) then if (σ.2 k 3 : Int64) = (σ.2 i 3) then true else false else false else false else false
set_option maxRecDepth 100000 in
set_option maxHeartbeats 4000000 in
theorem ev_X6_isSameAs {l : Launch} {b : Nat} {cy : Nat → ClassId} {D : va_G} {d : Nat} {k : Nat} {i : Nat}  {σ : Sg} (hk : Sq k) (hi : Sq i)  : Es l b cy D (d + 0) yX6_isSameAs cX6_isSameAs (Option.some Jvm.ClassFile.FieldType.boolean) 2 [.ref (b + k), .ref (b + i)] σ (some (.int (bI (rX6_isSameAs k i σ)))) σ := by
  refine Ev.of (by decide) (Nat.le_of_ble_eq_true rfl) rfl ?_
  refine g_aload_n (pc' := 1) dX6_isSameAs_0 rfl 0 rfl rfl ?_
  refine g_getL (pc' := 4) dX6_isSameAs_1 rfl (PLk.lf fX6_9) hk rfl ?_
  refine g_aload_n (pc' := 5) dX6_isSameAs_4 rfl 1 rfl rfl ?_
  refine g_getL (pc' := 8) dX6_isSameAs_5 rfl (PLk.lf fX6_9) hi rfl ?_
  refine g_lif_ne (pc' := 12) (tgt := 52) dX6_isSameAs_8 dX6_isSameAs_9 rfl (by decide) (fun (c1 : ¬ (σ.2 k 0 : Int64) = (σ.2 i 0)) => ?_) (fun (c1 : (σ.2 k 0 : Int64) = (σ.2 i 0)) => ?_)
  · refine g_iconst (pc' := 53) (v := 0) dX6_isSameAs_52 rfl (by decide) ?_
    exact g_zret dX6_isSameAs_53 rfl (Or.inl rfl) ⟨rfl, rfl⟩ (by simp only [rX6_isSameAs, if_neg c1, bI_t, bI_f])
  · refine g_aload_n (pc' := 13) dX6_isSameAs_12 rfl 0 rfl rfl ?_
    refine g_getL (pc' := 16) dX6_isSameAs_13 rfl (PLk.lf fX6_15) hk rfl ?_
    refine g_aload_n (pc' := 17) dX6_isSameAs_16 rfl 1 rfl rfl ?_
    refine g_getL (pc' := 20) dX6_isSameAs_17 rfl (PLk.lf fX6_15) hi rfl ?_
    refine g_lif_ne (pc' := 24) (tgt := 52) dX6_isSameAs_20 dX6_isSameAs_21 rfl (by decide) (fun (c2 : ¬ (σ.2 k 1 : Int64) = (σ.2 i 1)) => ?_) (fun (c2 : (σ.2 k 1 : Int64) = (σ.2 i 1)) => ?_)
    · refine g_iconst (pc' := 53) (v := 0) dX6_isSameAs_52 rfl (by decide) ?_
      exact g_zret dX6_isSameAs_53 rfl (Or.inl rfl) ⟨rfl, rfl⟩ (by simp only [rX6_isSameAs, if_pos c1, if_neg c2, bI_t, bI_f])
    · refine g_aload_n (pc' := 25) dX6_isSameAs_24 rfl 0 rfl rfl ?_
      refine g_getL (pc' := 28) dX6_isSameAs_25 rfl (PLk.lf fX6_18) hk rfl ?_
      refine g_aload_n (pc' := 29) dX6_isSameAs_28 rfl 1 rfl rfl ?_
      refine g_getL (pc' := 32) dX6_isSameAs_29 rfl (PLk.lf fX6_18) hi rfl ?_
      refine g_lif_ne (pc' := 36) (tgt := 52) dX6_isSameAs_32 dX6_isSameAs_33 rfl (by decide) (fun (c3 : ¬ (σ.2 k 2 : Int64) = (σ.2 i 2)) => ?_) (fun (c3 : (σ.2 k 2 : Int64) = (σ.2 i 2)) => ?_)
      · refine g_iconst (pc' := 53) (v := 0) dX6_isSameAs_52 rfl (by decide) ?_
        exact g_zret dX6_isSameAs_53 rfl (Or.inl rfl) ⟨rfl, rfl⟩ (by simp only [rX6_isSameAs, if_pos c1, if_pos c2, if_neg c3, bI_t, bI_f])
      · refine g_aload_n (pc' := 37) dX6_isSameAs_36 rfl 0 rfl rfl ?_
        refine g_getL (pc' := 40) dX6_isSameAs_37 rfl (PLk.lf fX6_21) hk rfl ?_
        refine g_aload_n (pc' := 41) dX6_isSameAs_40 rfl 1 rfl rfl ?_
        refine g_getL (pc' := 44) dX6_isSameAs_41 rfl (PLk.lf fX6_21) hi rfl ?_
        refine g_lif_ne (pc' := 48) (tgt := 52) dX6_isSameAs_44 dX6_isSameAs_45 rfl (by decide) (fun (c4 : ¬ (σ.2 k 3 : Int64) = (σ.2 i 3)) => ?_) (fun (c4 : (σ.2 k 3 : Int64) = (σ.2 i 3)) => ?_)
        · refine g_iconst (pc' := 53) (v := 0) dX6_isSameAs_52 rfl (by decide) ?_
          exact g_zret dX6_isSameAs_53 rfl (Or.inl rfl) ⟨rfl, rfl⟩ (by simp only [rX6_isSameAs, if_pos c1, if_pos c2, if_pos c3, if_neg c4, bI_t, bI_f])
        · refine g_iconst (pc' := 49) (v := 1) dX6_isSameAs_48 rfl (by decide) ?_
          refine g_goto (tgt := 53) dX6_isSameAs_49 (by decide) ?_
          exact g_zret dX6_isSameAs_53 rfl (Or.inr rfl) ⟨rfl, rfl⟩ (by simp only [rX6_isSameAs, if_pos c1, if_pos c2, if_pos c3, if_pos c4, bI_t, bI_f])
def sX6_setProduct (k : Nat) (i : Nat) (j : Nat)  (σ : Sg) : Sg := sX6_set k (((σ.2 i 0) * (σ.2 j 0)) + ((σ.2 i 1) * (σ.2 j 2))) (((σ.2 i 0) * (σ.2 j 1)) + ((σ.2 i 1) * (σ.2 j 3))) (((σ.2 i 2) * (σ.2 j 0)) + ((σ.2 i 3) * (σ.2 j 2))) (((σ.2 i 2) * (σ.2 j 1)) + ((σ.2 i 3) * (σ.2 j 3))) σ
set_option maxRecDepth 100000 in
set_option maxHeartbeats 4000000 in
theorem ev_X6_setProduct {l : Launch} {b : Nat} {cy : Nat → ClassId} {D : va_G} {d : Nat} {k : Nat} {i : Nat} {j : Nat}  {σ : Sg} (hk : Sq k) (hi : Sq i) (hj : Sq j)  : Es l b cy D (d + 1) yX6_setProduct cX6_setProduct (Option.none : Option Jvm.ClassFile.FieldType) 3 [.ref (b + k), .ref (b + i), .ref (b + j)] σ none (sX6_setProduct k i j σ) := by
  refine Ev.of (by decide) (Nat.le_of_ble_eq_true rfl) rfl ?_
  refine g_aload_n (pc' := 1) dX6_setProduct_0 rfl 0 rfl rfl ?_
  refine g_aload_n (pc' := 2) dX6_setProduct_1 rfl 1 rfl rfl ?_
  refine g_getL (pc' := 5) dX6_setProduct_2 rfl (PLk.lf fX6_9) hi rfl ?_
  refine g_aload_n (pc' := 6) dX6_setProduct_5 rfl 2 rfl rfl ?_
  refine g_getL (pc' := 9) dX6_setProduct_6 rfl (PLk.lf fX6_9) hj rfl ?_
  refine g_lmul (pc' := 10) dX6_setProduct_9 rfl ?_
  refine g_aload_n (pc' := 11) dX6_setProduct_10 rfl 1 rfl rfl ?_
  refine g_getL (pc' := 14) dX6_setProduct_11 rfl (PLk.lf fX6_15) hi rfl ?_
  refine g_aload_n (pc' := 15) dX6_setProduct_14 rfl 2 rfl rfl ?_
  refine g_getL (pc' := 18) dX6_setProduct_15 rfl (PLk.lf fX6_18) hj rfl ?_
  refine g_lmul (pc' := 19) dX6_setProduct_18 rfl ?_
  refine g_ladd (pc' := 20) dX6_setProduct_19 rfl ?_
  refine g_aload_n (pc' := 21) dX6_setProduct_20 rfl 1 rfl rfl ?_
  refine g_getL (pc' := 24) dX6_setProduct_21 rfl (PLk.lf fX6_9) hi rfl ?_
  refine g_aload_n (pc' := 25) dX6_setProduct_24 rfl 2 rfl rfl ?_
  refine g_getL (pc' := 28) dX6_setProduct_25 rfl (PLk.lf fX6_15) hj rfl ?_
  refine g_lmul (pc' := 29) dX6_setProduct_28 rfl ?_
  refine g_aload_n (pc' := 30) dX6_setProduct_29 rfl 1 rfl rfl ?_
  refine g_getL (pc' := 33) dX6_setProduct_30 rfl (PLk.lf fX6_15) hi rfl ?_
  refine g_aload_n (pc' := 34) dX6_setProduct_33 rfl 2 rfl rfl ?_
  refine g_getL (pc' := 37) dX6_setProduct_34 rfl (PLk.lf fX6_21) hj rfl ?_
  refine g_lmul (pc' := 38) dX6_setProduct_37 rfl ?_
  refine g_ladd (pc' := 39) dX6_setProduct_38 rfl ?_
  refine g_aload_n (pc' := 40) dX6_setProduct_39 rfl 1 rfl rfl ?_
  refine g_getL (pc' := 43) dX6_setProduct_40 rfl (PLk.lf fX6_18) hi rfl ?_
  refine g_aload_n (pc' := 44) dX6_setProduct_43 rfl 2 rfl rfl ?_
  refine g_getL (pc' := 47) dX6_setProduct_44 rfl (PLk.lf fX6_9) hj rfl ?_
  refine g_lmul (pc' := 48) dX6_setProduct_47 rfl ?_
  refine g_aload_n (pc' := 49) dX6_setProduct_48 rfl 1 rfl rfl ?_
  refine g_getL (pc' := 52) dX6_setProduct_49 rfl (PLk.lf fX6_21) hi rfl ?_
  refine g_aload_n (pc' := 53) dX6_setProduct_52 rfl 2 rfl rfl ?_
  refine g_getL (pc' := 56) dX6_setProduct_53 rfl (PLk.lf fX6_18) hj rfl ?_
  refine g_lmul (pc' := 57) dX6_setProduct_56 rfl ?_
  refine g_ladd (pc' := 58) dX6_setProduct_57 rfl ?_
  refine g_aload_n (pc' := 59) dX6_setProduct_58 rfl 1 rfl rfl ?_
  refine g_getL (pc' := 62) dX6_setProduct_59 rfl (PLk.lf fX6_18) hi rfl ?_
  refine g_aload_n (pc' := 63) dX6_setProduct_62 rfl 2 rfl rfl ?_
  refine g_getL (pc' := 66) dX6_setProduct_63 rfl (PLk.lf fX6_15) hj rfl ?_
  refine g_lmul (pc' := 67) dX6_setProduct_66 rfl ?_
  refine g_aload_n (pc' := 68) dX6_setProduct_67 rfl 1 rfl rfl ?_
  refine g_getL (pc' := 71) dX6_setProduct_68 rfl (PLk.lf fX6_21) hi rfl ?_
  refine g_aload_n (pc' := 72) dX6_setProduct_71 rfl 2 rfl rfl ?_
  refine g_getL (pc' := 75) dX6_setProduct_72 rfl (PLk.lf fX6_21) hj rfl ?_
  refine g_lmul (pc' := 76) dX6_setProduct_75 rfl ?_
  refine g_ladd (pc' := 77) dX6_setProduct_76 rfl ?_
  refine g_callv (pc' := 80) dX6_setProduct_77 rfl mX6_24 (ev_X6_set (k := k) (x1 := ((σ.2 i 0) * (σ.2 j 0)) + ((σ.2 i 1) * (σ.2 j 2))) (x2 := ((σ.2 i 0) * (σ.2 j 1)) + ((σ.2 i 1) * (σ.2 j 3))) (x3 := ((σ.2 i 2) * (σ.2 j 0)) + ((σ.2 i 3) * (σ.2 j 2))) (x4 := ((σ.2 i 2) * (σ.2 j 1)) + ((σ.2 i 3) * (σ.2 j 3))) (σ := σ) hk (d := d)) hk rfl (rm_ok (by omega) (by decide)) ⟨rfl, rfl⟩ ⟨Nat.zero_le _, Nat.zero_le _⟩ rfl rfl (Nat.le_of_ble_eq_true rfl) ?_
  exact g_vret dX6_setProduct_80 rfl ⟨rfl, rfl⟩ rfl
def rX6_multiplyByLetter (k : Nat) (x1 : Int32) (σ : Sg) : Bool := if (x1 : Int32) = 76 then true else if (x1 : Int32) = 82 then true else if (x1 : Int32) = 83 then true else if (x1 : Int32) = 108 then true else if (x1 : Int32) = 114 then true else if (x1 : Int32) = 115 then true else false
def sX6_multiplyByLetter (k : Nat) (x1 : Int32) (σ : Sg) : Sg := if (x1 : Int32) = 76 then sX6_set k ((σ.2 k 0) + (σ.2 k 1)) (σ.2 k 1) ((σ.2 k 2) + (σ.2 k 3)) (σ.2 k 3) σ else if (x1 : Int32) = 82 then sX6_set k (σ.2 k 0) ((σ.2 k 0) + (σ.2 k 1)) (σ.2 k 2) ((σ.2 k 2) + (σ.2 k 3)) σ else if (x1 : Int32) = 83 then sX6_set k (σ.2 k 1) (-(σ.2 k 0)) (σ.2 k 3) (-(σ.2 k 2)) σ else if (x1 : Int32) = 108 then sX6_set k ((σ.2 k 0) - (σ.2 k 1)) (σ.2 k 1) ((σ.2 k 2) - (σ.2 k 3)) (σ.2 k 3) σ else if (x1 : Int32) = 114 then sX6_set k (σ.2 k 0) ((σ.2 k 1) - (σ.2 k 0)) (σ.2 k 2) ((σ.2 k 3) - (σ.2 k 2)) σ else if (x1 : Int32) = 115 then sX6_set k (-(σ.2 k 1)) (σ.2 k 0) (-(σ.2 k 3)) (σ.2 k 2) σ else σ
set_option maxRecDepth 100000 in
set_option maxHeartbeats 4000000 in
theorem ev_X6_multiplyByLetter {l : Launch} {b : Nat} {cy : Nat → ClassId} {D : va_G} {d : Nat} {k : Nat} {x1 : Int32} {σ : Sg} (hk : Sq k)  : Es l b cy D (d + 1) yX6_multiplyByLetter cX6_multiplyByLetter (Option.some Jvm.ClassFile.FieldType.boolean) 2 [.ref (b + k), .int (x1)] σ (some (.int (bI (rX6_multiplyByLetter k x1 σ)))) (sX6_multiplyByLetter k x1 σ) := by
  refine Ev.of (by decide) (Nat.le_of_ble_eq_true rfl) rfl ?_
  refine g_iload_n (pc' := 1) dX6_multiplyByLetter_0 rfl 1 rfl rfl ?_
  by_cases c1 : (x1 : Int32) = 76
  · refine g_look (tgt := 92) (off := 91) dX6_multiplyByLetter_1 (by decide) (by rw [c1]; decide) (by decide) ?_
    refine g_aload_n (pc' := 93) dX6_multiplyByLetter_92 rfl 0 rfl rfl ?_
    refine g_aload_n (pc' := 94) dX6_multiplyByLetter_93 rfl 0 rfl rfl ?_
    refine g_getL (pc' := 97) dX6_multiplyByLetter_94 rfl (PLk.lf fX6_9) hk rfl ?_
    refine g_aload_n (pc' := 98) dX6_multiplyByLetter_97 rfl 0 rfl rfl ?_
    refine g_getL (pc' := 101) dX6_multiplyByLetter_98 rfl (PLk.lf fX6_15) hk rfl ?_
    refine g_ladd (pc' := 102) dX6_multiplyByLetter_101 rfl ?_
    refine g_aload_n (pc' := 103) dX6_multiplyByLetter_102 rfl 0 rfl rfl ?_
    refine g_getL (pc' := 106) dX6_multiplyByLetter_103 rfl (PLk.lf fX6_15) hk rfl ?_
    refine g_aload_n (pc' := 107) dX6_multiplyByLetter_106 rfl 0 rfl rfl ?_
    refine g_getL (pc' := 110) dX6_multiplyByLetter_107 rfl (PLk.lf fX6_18) hk rfl ?_
    refine g_aload_n (pc' := 111) dX6_multiplyByLetter_110 rfl 0 rfl rfl ?_
    refine g_getL (pc' := 114) dX6_multiplyByLetter_111 rfl (PLk.lf fX6_21) hk rfl ?_
    refine g_ladd (pc' := 115) dX6_multiplyByLetter_114 rfl ?_
    refine g_aload_n (pc' := 116) dX6_multiplyByLetter_115 rfl 0 rfl rfl ?_
    refine g_getL (pc' := 119) dX6_multiplyByLetter_116 rfl (PLk.lf fX6_21) hk rfl ?_
    refine g_callv (pc' := 122) dX6_multiplyByLetter_119 rfl mX6_24 (ev_X6_set (k := k) (x1 := (σ.2 k 0) + (σ.2 k 1)) (x2 := σ.2 k 1) (x3 := (σ.2 k 2) + (σ.2 k 3)) (x4 := σ.2 k 3) (σ := σ) hk (d := d)) hk rfl (rm_ok (by omega) (by decide)) ⟨rfl, rfl⟩ ⟨Nat.zero_le _, Nat.zero_le _⟩ rfl rfl (Nat.le_of_ble_eq_true rfl) ?_
    refine g_iconst (pc' := 123) (v := 1) dX6_multiplyByLetter_122 rfl (by decide) ?_
    exact g_zret dX6_multiplyByLetter_123 rfl (Or.inr rfl) ⟨rfl, rfl⟩ (by simp only [rX6_multiplyByLetter, sX6_multiplyByLetter, if_pos c1, bI_t, bI_f])
  by_cases c2 : (x1 : Int32) = 82
  · refine g_look (tgt := 60) (off := 59) dX6_multiplyByLetter_1 (by decide) (by rw [c2]; decide) (by decide) ?_
    refine g_aload_n (pc' := 61) dX6_multiplyByLetter_60 rfl 0 rfl rfl ?_
    refine g_aload_n (pc' := 62) dX6_multiplyByLetter_61 rfl 0 rfl rfl ?_
    refine g_getL (pc' := 65) dX6_multiplyByLetter_62 rfl (PLk.lf fX6_9) hk rfl ?_
    refine g_aload_n (pc' := 66) dX6_multiplyByLetter_65 rfl 0 rfl rfl ?_
    refine g_getL (pc' := 69) dX6_multiplyByLetter_66 rfl (PLk.lf fX6_9) hk rfl ?_
    refine g_aload_n (pc' := 70) dX6_multiplyByLetter_69 rfl 0 rfl rfl ?_
    refine g_getL (pc' := 73) dX6_multiplyByLetter_70 rfl (PLk.lf fX6_15) hk rfl ?_
    refine g_ladd (pc' := 74) dX6_multiplyByLetter_73 rfl ?_
    refine g_aload_n (pc' := 75) dX6_multiplyByLetter_74 rfl 0 rfl rfl ?_
    refine g_getL (pc' := 78) dX6_multiplyByLetter_75 rfl (PLk.lf fX6_18) hk rfl ?_
    refine g_aload_n (pc' := 79) dX6_multiplyByLetter_78 rfl 0 rfl rfl ?_
    refine g_getL (pc' := 82) dX6_multiplyByLetter_79 rfl (PLk.lf fX6_18) hk rfl ?_
    refine g_aload_n (pc' := 83) dX6_multiplyByLetter_82 rfl 0 rfl rfl ?_
    refine g_getL (pc' := 86) dX6_multiplyByLetter_83 rfl (PLk.lf fX6_21) hk rfl ?_
    refine g_ladd (pc' := 87) dX6_multiplyByLetter_86 rfl ?_
    refine g_callv (pc' := 90) dX6_multiplyByLetter_87 rfl mX6_24 (ev_X6_set (k := k) (x1 := σ.2 k 0) (x2 := (σ.2 k 0) + (σ.2 k 1)) (x3 := σ.2 k 2) (x4 := (σ.2 k 2) + (σ.2 k 3)) (σ := σ) hk (d := d)) hk rfl (rm_ok (by omega) (by decide)) ⟨rfl, rfl⟩ ⟨Nat.zero_le _, Nat.zero_le _⟩ rfl rfl (Nat.le_of_ble_eq_true rfl) ?_
    refine g_iconst (pc' := 91) (v := 1) dX6_multiplyByLetter_90 rfl (by decide) ?_
    exact g_zret dX6_multiplyByLetter_91 rfl (Or.inr rfl) ⟨rfl, rfl⟩ (by simp only [rX6_multiplyByLetter, sX6_multiplyByLetter, if_neg c1, if_pos c2, bI_t, bI_f])
  by_cases c3 : (x1 : Int32) = 83
  · refine g_look (tgt := 188) (off := 187) dX6_multiplyByLetter_1 (by decide) (by rw [c3]; decide) (by decide) ?_
    refine g_aload_n (pc' := 189) dX6_multiplyByLetter_188 rfl 0 rfl rfl ?_
    refine g_aload_n (pc' := 190) dX6_multiplyByLetter_189 rfl 0 rfl rfl ?_
    refine g_getL (pc' := 193) dX6_multiplyByLetter_190 rfl (PLk.lf fX6_15) hk rfl ?_
    refine g_aload_n (pc' := 194) dX6_multiplyByLetter_193 rfl 0 rfl rfl ?_
    refine g_getL (pc' := 197) dX6_multiplyByLetter_194 rfl (PLk.lf fX6_9) hk rfl ?_
    refine g_lneg (pc' := 198) dX6_multiplyByLetter_197 rfl ?_
    refine g_aload_n (pc' := 199) dX6_multiplyByLetter_198 rfl 0 rfl rfl ?_
    refine g_getL (pc' := 202) dX6_multiplyByLetter_199 rfl (PLk.lf fX6_21) hk rfl ?_
    refine g_aload_n (pc' := 203) dX6_multiplyByLetter_202 rfl 0 rfl rfl ?_
    refine g_getL (pc' := 206) dX6_multiplyByLetter_203 rfl (PLk.lf fX6_18) hk rfl ?_
    refine g_lneg (pc' := 207) dX6_multiplyByLetter_206 rfl ?_
    refine g_callv (pc' := 210) dX6_multiplyByLetter_207 rfl mX6_24 (ev_X6_set (k := k) (x1 := σ.2 k 1) (x2 := -(σ.2 k 0)) (x3 := σ.2 k 3) (x4 := -(σ.2 k 2)) (σ := σ) hk (d := d)) hk rfl (rm_ok (by omega) (by decide)) ⟨rfl, rfl⟩ ⟨Nat.zero_le _, Nat.zero_le _⟩ rfl rfl (Nat.le_of_ble_eq_true rfl) ?_
    refine g_iconst (pc' := 211) (v := 1) dX6_multiplyByLetter_210 rfl (by decide) ?_
    exact g_zret dX6_multiplyByLetter_211 rfl (Or.inr rfl) ⟨rfl, rfl⟩ (by simp only [rX6_multiplyByLetter, sX6_multiplyByLetter, if_neg c1, if_neg c2, if_pos c3, bI_t, bI_f])
  by_cases c4 : (x1 : Int32) = 108
  · refine g_look (tgt := 156) (off := 155) dX6_multiplyByLetter_1 (by decide) (by rw [c4]; decide) (by decide) ?_
    refine g_aload_n (pc' := 157) dX6_multiplyByLetter_156 rfl 0 rfl rfl ?_
    refine g_aload_n (pc' := 158) dX6_multiplyByLetter_157 rfl 0 rfl rfl ?_
    refine g_getL (pc' := 161) dX6_multiplyByLetter_158 rfl (PLk.lf fX6_9) hk rfl ?_
    refine g_aload_n (pc' := 162) dX6_multiplyByLetter_161 rfl 0 rfl rfl ?_
    refine g_getL (pc' := 165) dX6_multiplyByLetter_162 rfl (PLk.lf fX6_15) hk rfl ?_
    refine g_lsub (pc' := 166) dX6_multiplyByLetter_165 rfl ?_
    refine g_aload_n (pc' := 167) dX6_multiplyByLetter_166 rfl 0 rfl rfl ?_
    refine g_getL (pc' := 170) dX6_multiplyByLetter_167 rfl (PLk.lf fX6_15) hk rfl ?_
    refine g_aload_n (pc' := 171) dX6_multiplyByLetter_170 rfl 0 rfl rfl ?_
    refine g_getL (pc' := 174) dX6_multiplyByLetter_171 rfl (PLk.lf fX6_18) hk rfl ?_
    refine g_aload_n (pc' := 175) dX6_multiplyByLetter_174 rfl 0 rfl rfl ?_
    refine g_getL (pc' := 178) dX6_multiplyByLetter_175 rfl (PLk.lf fX6_21) hk rfl ?_
    refine g_lsub (pc' := 179) dX6_multiplyByLetter_178 rfl ?_
    refine g_aload_n (pc' := 180) dX6_multiplyByLetter_179 rfl 0 rfl rfl ?_
    refine g_getL (pc' := 183) dX6_multiplyByLetter_180 rfl (PLk.lf fX6_21) hk rfl ?_
    refine g_callv (pc' := 186) dX6_multiplyByLetter_183 rfl mX6_24 (ev_X6_set (k := k) (x1 := (σ.2 k 0) - (σ.2 k 1)) (x2 := σ.2 k 1) (x3 := (σ.2 k 2) - (σ.2 k 3)) (x4 := σ.2 k 3) (σ := σ) hk (d := d)) hk rfl (rm_ok (by omega) (by decide)) ⟨rfl, rfl⟩ ⟨Nat.zero_le _, Nat.zero_le _⟩ rfl rfl (Nat.le_of_ble_eq_true rfl) ?_
    refine g_iconst (pc' := 187) (v := 1) dX6_multiplyByLetter_186 rfl (by decide) ?_
    exact g_zret dX6_multiplyByLetter_187 rfl (Or.inr rfl) ⟨rfl, rfl⟩ (by simp only [rX6_multiplyByLetter, sX6_multiplyByLetter, if_neg c1, if_neg c2, if_neg c3, if_pos c4, bI_t, bI_f])
  by_cases c5 : (x1 : Int32) = 114
  · refine g_look (tgt := 124) (off := 123) dX6_multiplyByLetter_1 (by decide) (by rw [c5]; decide) (by decide) ?_
    refine g_aload_n (pc' := 125) dX6_multiplyByLetter_124 rfl 0 rfl rfl ?_
    refine g_aload_n (pc' := 126) dX6_multiplyByLetter_125 rfl 0 rfl rfl ?_
    refine g_getL (pc' := 129) dX6_multiplyByLetter_126 rfl (PLk.lf fX6_9) hk rfl ?_
    refine g_aload_n (pc' := 130) dX6_multiplyByLetter_129 rfl 0 rfl rfl ?_
    refine g_getL (pc' := 133) dX6_multiplyByLetter_130 rfl (PLk.lf fX6_15) hk rfl ?_
    refine g_aload_n (pc' := 134) dX6_multiplyByLetter_133 rfl 0 rfl rfl ?_
    refine g_getL (pc' := 137) dX6_multiplyByLetter_134 rfl (PLk.lf fX6_9) hk rfl ?_
    refine g_lsub (pc' := 138) dX6_multiplyByLetter_137 rfl ?_
    refine g_aload_n (pc' := 139) dX6_multiplyByLetter_138 rfl 0 rfl rfl ?_
    refine g_getL (pc' := 142) dX6_multiplyByLetter_139 rfl (PLk.lf fX6_18) hk rfl ?_
    refine g_aload_n (pc' := 143) dX6_multiplyByLetter_142 rfl 0 rfl rfl ?_
    refine g_getL (pc' := 146) dX6_multiplyByLetter_143 rfl (PLk.lf fX6_21) hk rfl ?_
    refine g_aload_n (pc' := 147) dX6_multiplyByLetter_146 rfl 0 rfl rfl ?_
    refine g_getL (pc' := 150) dX6_multiplyByLetter_147 rfl (PLk.lf fX6_18) hk rfl ?_
    refine g_lsub (pc' := 151) dX6_multiplyByLetter_150 rfl ?_
    refine g_callv (pc' := 154) dX6_multiplyByLetter_151 rfl mX6_24 (ev_X6_set (k := k) (x1 := σ.2 k 0) (x2 := (σ.2 k 1) - (σ.2 k 0)) (x3 := σ.2 k 2) (x4 := (σ.2 k 3) - (σ.2 k 2)) (σ := σ) hk (d := d)) hk rfl (rm_ok (by omega) (by decide)) ⟨rfl, rfl⟩ ⟨Nat.zero_le _, Nat.zero_le _⟩ rfl rfl (Nat.le_of_ble_eq_true rfl) ?_
    refine g_iconst (pc' := 155) (v := 1) dX6_multiplyByLetter_154 rfl (by decide) ?_
    exact g_zret dX6_multiplyByLetter_155 rfl (Or.inr rfl) ⟨rfl, rfl⟩ (by simp only [rX6_multiplyByLetter, sX6_multiplyByLetter, if_neg c1, if_neg c2, if_neg c3, if_neg c4, if_pos c5, bI_t, bI_f])
  by_cases c6 : (x1 : Int32) = 115
  · refine g_look (tgt := 212) (off := 211) dX6_multiplyByLetter_1 (by decide) (by rw [c6]; decide) (by decide) ?_
    refine g_aload_n (pc' := 213) dX6_multiplyByLetter_212 rfl 0 rfl rfl ?_
    refine g_aload_n (pc' := 214) dX6_multiplyByLetter_213 rfl 0 rfl rfl ?_
    refine g_getL (pc' := 217) dX6_multiplyByLetter_214 rfl (PLk.lf fX6_15) hk rfl ?_
    refine g_lneg (pc' := 218) dX6_multiplyByLetter_217 rfl ?_
    refine g_aload_n (pc' := 219) dX6_multiplyByLetter_218 rfl 0 rfl rfl ?_
    refine g_getL (pc' := 222) dX6_multiplyByLetter_219 rfl (PLk.lf fX6_9) hk rfl ?_
    refine g_aload_n (pc' := 223) dX6_multiplyByLetter_222 rfl 0 rfl rfl ?_
    refine g_getL (pc' := 226) dX6_multiplyByLetter_223 rfl (PLk.lf fX6_21) hk rfl ?_
    refine g_lneg (pc' := 227) dX6_multiplyByLetter_226 rfl ?_
    refine g_aload_n (pc' := 228) dX6_multiplyByLetter_227 rfl 0 rfl rfl ?_
    refine g_getL (pc' := 231) dX6_multiplyByLetter_228 rfl (PLk.lf fX6_18) hk rfl ?_
    refine g_callv (pc' := 234) dX6_multiplyByLetter_231 rfl mX6_24 (ev_X6_set (k := k) (x1 := -(σ.2 k 1)) (x2 := σ.2 k 0) (x3 := -(σ.2 k 3)) (x4 := σ.2 k 2) (σ := σ) hk (d := d)) hk rfl (rm_ok (by omega) (by decide)) ⟨rfl, rfl⟩ ⟨Nat.zero_le _, Nat.zero_le _⟩ rfl rfl (Nat.le_of_ble_eq_true rfl) ?_
    refine g_iconst (pc' := 235) (v := 1) dX6_multiplyByLetter_234 rfl (by decide) ?_
    exact g_zret dX6_multiplyByLetter_235 rfl (Or.inr rfl) ⟨rfl, rfl⟩ (by simp only [rX6_multiplyByLetter, sX6_multiplyByLetter, if_neg c1, if_neg c2, if_neg c3, if_neg c4, if_neg c5, if_pos c6, bI_t, bI_f])
  refine g_look (tgt := 236) (off := 235) dX6_multiplyByLetter_1 (by decide) (by rw [lv_osw c1 (a := 76) (by decide)]; rw [lv_osw c2 (a := 82) (by decide)]; rw [lv_osw c3 (a := 83) (by decide)]; rw [lv_osw c4 (a := 108) (by decide)]; rw [lv_osw c5 (a := 114) (by decide)]; rw [lv_osw c6 (a := 115) (by decide)]; rfl) (by decide) ?_
  refine g_iconst (pc' := 237) (v := 0) dX6_multiplyByLetter_236 rfl (by decide) ?_
  exact g_zret dX6_multiplyByLetter_237 rfl (Or.inl rfl) ⟨rfl, rfl⟩ (by simp only [rX6_multiplyByLetter, sX6_multiplyByLetter, if_neg c1, if_neg c2, if_neg c3, if_neg c4, if_neg c5, if_neg c6, bI_t, bI_f])
