def rX11_feed (tl : Nat) (x1 : Int32) (σ : Sg) : Int32 := if (rX11_in ((x1 : Int32).toInt64) 0 255 σ) = true then if (σ.1 159 7 : Int32) = 60 then -1000000004 else (u2 (u2 σ.1 164 tl x1) 159 7 (((u2 σ.1 164 tl x1) 159 7) + 1)) 159 7 else -1000000002
def sX11_feed (tl : Nat) (x1 : Int32) (σ : Sg) : Sg := if (rX11_in ((x1 : Int32).toInt64) 0 255 σ) = true then if (σ.1 159 7 : Int32) = 60 then σ else (u2 (u2 σ.1 164 tl x1) 159 7 (((u2 σ.1 164 tl x1) 159 7) + 1), σ.2) else σ
set_option maxRecDepth 100000 in
set_option maxHeartbeats 4000000 in
theorem ev_X11_feed {l : Launch} {b : Nat} {cy : Nat → ClassId} {D : va_G} {d : Nat} {tl : Nat} {x1 : Int32} {σ : Sg}  (ht : σ.1 159 7 = nI tl) (htl : tl ≤ 60) : Es l b cy D (d + 1) yX11_feed cX11_feed (Option.some Jvm.ClassFile.FieldType.int) 2 [.ref (b + 159), .int (x1)] σ (some (.int (rX11_feed tl x1 σ))) (sX11_feed tl x1 σ) := by
  refine Ev.of (by decide) (Nat.le_of_ble_eq_true rfl) rfl ?_
  refine g_iload_n (pc' := 1) dX11_feed_0 rfl 1 rfl rfl ?_
  refine g_i2l (pc' := 2) dX11_feed_1 rfl ?_
  refine g_lconst (pc' := 3) (v := 0) dX11_feed_2 rfl (by decide) ?_
  refine g_ldc2 (pc' := 6) dX11_feed_3 rfl kX11_83 ?_
  refine g_callsr (pc' := 9) dX11_feed_6 rfl mX11_53 (ev_X11_in (x1 := (x1 : Int32).toInt64) (x2 := 0) (x3 := 255) (σ := σ)  (d := d)) (rm_ok (by omega) (by decide)) ⟨rfl, rfl⟩ ⟨Nat.zero_le _, Nat.zero_le _⟩ rfl rfl (Nat.le_of_ble_eq_true rfl) ?_
  refine g_ifb_ne (pc' := 12) (tgt := 15) dX11_feed_9 rfl (by decide) (fun (c1 : (rX11_in ((x1 : Int32).toInt64) 0 255 σ) = true) => ?_) (fun (c1 : (rX11_in ((x1 : Int32).toInt64) 0 255 σ) = false) => ?_)
  · refine g_aload_n (pc' := 16) dX11_feed_15 rfl 0 rfl rfl ?_
    refine g_getI (pc' := 19) dX11_feed_16 rfl (PLk.lf fX11_86) o159 rfl ?_
    refine g_bipush (pc' := 21) (v := 60) dX11_feed_19 rfl (by decide) ?_
    refine g_icmp_ne (pc' := 24) (tgt := 27) dX11_feed_21 rfl (by decide) (fun (c2 : ¬ (σ.1 159 7 : Int32) = 60) => ?_) (fun (c2 : (σ.1 159 7 : Int32) = 60) => ?_)
    · have h60 : tl < 60 := by
        rcases Nat.lt_or_ge tl 60 with h | h
        · exact h
        · exact absurd (by rw [ht, show tl = 60 by omega]; rfl) c2
      refine g_aload_n (pc' := 28) dX11_feed_27 rfl 0 rfl rfl ?_
      refine g_getR (pc' := 31) (a := 164) dX11_feed_28 rfl (PLk.lf fX11_23) o159 rfl ?_
      refine g_aload_n (pc' := 32) dX11_feed_31 rfl 0 rfl rfl ?_
      refine g_getI (pc' := 35) dX11_feed_32 rfl (PLk.lf fX11_86) o159 rfl ?_
      refine g_iload_n (pc' := 36) dX11_feed_35 rfl 1 rfl rfl ?_
      refine g_iast (pc' := 37) (j := tl) dX11_feed_36 rfl (by decide) o164 (by decide) ht h60 ?_
      refine g_aload_n (pc' := 38) dX11_feed_37 rfl 0 rfl rfl ?_
      refine g_dup (pc' := 39) dX11_feed_38 rfl rfl ?_
      refine g_getI (pc' := 42) dX11_feed_39 rfl (PLk.lf fX11_86) o159 rfl ?_
      refine g_iconst (pc' := 43) (v := 1) dX11_feed_42 rfl (by decide) ?_
      refine g_iadd (pc' := 44) dX11_feed_43 rfl ?_
      refine g_putI (pc' := 47) dX11_feed_44 rfl fX11_86 o159 rfl ?_
      refine g_aload_n (pc' := 48) dX11_feed_47 rfl 0 rfl rfl ?_
      refine g_getI (pc' := 51) dX11_feed_48 rfl (PLk.lf fX11_86) o159 rfl ?_
      exact g_iret dX11_feed_51 rfl ⟨rfl, rfl⟩ (by simp only [rX11_feed, sX11_feed, if_pos c1, if_neg c2, bI_t, bI_f])
    · refine g_ldc (pc' := 26) dX11_feed_24 rfl kX11_89 ?_
      exact g_iret dX11_feed_26 rfl ⟨rfl, rfl⟩ (by simp only [rX11_feed, sX11_feed, if_pos c1, if_pos c2, bI_t, bI_f])
  · refine g_ldc (pc' := 14) dX11_feed_12 rfl kX11_85 ?_
    exact g_iret dX11_feed_14 rfl ⟨rfl, rfl⟩ (by simp only [rX11_feed, sX11_feed, if_neg (bf c1), bI_t, bI_f])
def n2F (t : Nat) : Nat → Nat → Sg → Sg
  | 0, _, σ => σ
  | m + 1, k, σ => n2F t m (k + 1) (u2 σ.1 161 (49 * t + k) (σ.1 160 k), σ.2)
def n2E (t : Nat) (σ : Sg) : Sg := (u2 (n2F t 49 0 σ).1 159 2 ((n2F t 49 0 σ).1 159 2 + 1), (n2F t 49 0 σ).2)
def n1F : Nat → Nat → Sg → Sg
  | 0, _, σ => σ
  | m + 1, k, σ => n1F m (k + 1) (u2 σ.1 161 k (σ.1 161 (k + 49)), σ.2)
def n1E (σ : Sg) : Sg := (u2 (n1F 931 0 σ).1 159 2 ((n1F 931 0 σ).1 159 2 - 1), (n1F 931 0 σ).2)
def sNo (t : Nat) (σ : Sg) : Sg := if t = 20 then n2E 19 (n1E σ) else n2E t σ
theorem n2F_1 {t a : Nat} (h : a ≠ 161) : ∀ (m k : Nat) (σ : Sg), (n2F t m k σ).1 a = σ.1 a
  | 0, _, _ => rfl
  | m + 1, k, σ => by rw [n2F, n2F_1 h m]; exact u2k h
theorem n1F_1 {a : Nat} (h : a ≠ 161) : ∀ (m k : Nat) (σ : Sg), (n1F m k σ).1 a = σ.1 a
  | 0, _, _ => rfl
  | m + 1, k, σ => by rw [n1F, n1F_1 h m]; exact u2k h
theorem n2F_2 {t : Nat} : ∀ (m k : Nat) (σ : Sg), (n2F t m k σ).2 = σ.2
  | 0, _, _ => rfl
  | m + 1, k, σ => by rw [n2F, n2F_2 m]
theorem n1F_2 : ∀ (m k : Nat) (σ : Sg), (n1F m k σ).2 = σ.2
  | 0, _, _ => rfl
  | m + 1, k, σ => by rw [n1F, n1F_2 m]
theorem n2E_1 {t a : Nat} {σ : Sg} (h : a ≠ 161) (h2 : a ≠ 159) : (n2E t σ).1 a = σ.1 a := by unfold n2E; dsimp only; rw [u2k h2, n2F_1 h]
theorem n1E_1 {a : Nat} {σ : Sg} (h : a ≠ 161) (h2 : a ≠ 159) : (n1E σ).1 a = σ.1 a := by unfold n1E; dsimp only; rw [u2k h2, n1F_1 h]
theorem sNo_1 {t a : Nat} {σ : Sg} (h : a ≠ 161) (h2 : a ≠ 159) : (sNo t σ).1 a = σ.1 a := by
  unfold sNo
  split
  · rw [n2E_1 h h2, n1E_1 h h2]
  · exact n2E_1 h h2
theorem sNo_2 {t : Nat} {σ : Sg} : (sNo t σ).2 = σ.2 := by
  unfold sNo n2E n1E
  split
  · dsimp only; rw [n2F_2]; dsimp only; rw [n1F_2]
  · dsimp only; rw [n2F_2]
theorem i49 (t k : Nat) : 49 * nI t + nI k = nI (49 * t + k) := by rw [show (49 : Int32) = nI 49 from rfl, pk_mul, nI_add]
set_option maxRecDepth 100000 in
set_option maxHeartbeats 4000000 in
theorem lp_n2 {l : Launch} {b : Nat} {cy : Nat → ClassId} {D : va_G} {d : Nat}   {t : Nat}   (htt : t ≤ 19) : ∀ (m : Nat) (k : Nat) (σ : Sg), k + m = 49 → σ.1 159 2 = nI t → Gs l b cy D (d + 0) yX11_notes cX11_notes (Option.none : Option Jvm.ClassFile.FieldType) 2 none (u2 (n2F t m k σ).1 159 2 ((n2F t m k σ).1 159 2 + 1), (n2F t m k σ).2) 51 [(0, .ref (b + 159)), (1, .int (nI k))] [] σ := by
  intro m
  induction m with
  | zero =>
    intro k σ hk hu
    refine g_iload_n (pc' := 52) dX11_notes_51 rfl 1 rfl rfl ?_
    refine g_bipush (pc' := 54) (v := 49) dX11_notes_52 rfl (by decide) ?_
    refine g_icmp_ge (pc' := 57) (tgt := 83) dX11_notes_54 rfl (by decide) (fun (c1 : (49 : Int32) ≤ (nI k)) => ?_) (fun (c1 : ¬ (49 : Int32) ≤ (nI k)) => ?_)
    · refine g_aload_n (pc' := 84) dX11_notes_83 rfl 0 rfl rfl ?_
      refine g_dup (pc' := 85) dX11_notes_84 rfl rfl ?_
      refine g_getI (pc' := 88) dX11_notes_85 rfl (PLk.lf fX11_90) o159 rfl ?_
      refine g_iconst (pc' := 89) (v := 1) dX11_notes_88 rfl (by decide) ?_
      refine g_iadd (pc' := 90) dX11_notes_89 rfl ?_
      refine g_putI (pc' := 93) dX11_notes_90 rfl fX11_90 o159 rfl ?_
      exact g_vret dX11_notes_93 rfl ⟨rfl, rfl⟩ rfl
    · exact absurd ((nI_leI (a := 49) (b := k) (by omega) (by omega)).mpr (by omega)) c1
  | succ m ih =>
    intro k σ hk hu
    refine g_iload_n (pc' := 52) dX11_notes_51 rfl 1 rfl rfl ?_
    refine g_bipush (pc' := 54) (v := 49) dX11_notes_52 rfl (by decide) ?_
    refine g_icmp_ge (pc' := 57) (tgt := 83) dX11_notes_54 rfl (by decide) (fun (c1 : (49 : Int32) ≤ (nI k)) => ?_) (fun (c1 : ¬ (49 : Int32) ≤ (nI k)) => ?_)
    · exact absurd (nle (a := 49) (c := k) c1 rfl rfl (by omega) (by omega)) (by omega)
    · refine g_aload_n (pc' := 58) dX11_notes_57 rfl 0 rfl rfl ?_
      refine g_getR (pc' := 61) (a := 161) dX11_notes_58 rfl (PLk.lf fX11_13) o159 rfl ?_
      refine g_bipush (pc' := 63) (v := 49) dX11_notes_61 rfl (by decide) ?_
      refine g_aload_n (pc' := 64) dX11_notes_63 rfl 0 rfl rfl ?_
      refine g_getI (pc' := 67) dX11_notes_64 rfl (PLk.lf fX11_90) o159 rfl ?_
      refine g_imul (pc' := 68) dX11_notes_67 rfl ?_
      refine g_iload_n (pc' := 69) dX11_notes_68 rfl 1 rfl rfl ?_
      refine g_iadd (pc' := 70) dX11_notes_69 rfl ?_
      refine g_aload_n (pc' := 71) dX11_notes_70 rfl 0 rfl rfl ?_
      refine g_getR (pc' := 74) (a := 160) dX11_notes_71 rfl (PLk.lf fX11_7) o159 rfl ?_
      refine g_iload_n (pc' := 75) dX11_notes_74 rfl 1 rfl rfl ?_
      refine g_iald (pc' := 76) (j := k) dX11_notes_75 rfl o160 (by decide) rfl (by omega) ?_
      refine g_iast (pc' := 77) (j := (49 * t + k)) dX11_notes_76 rfl (by decide) o161 (by decide) (by rw [hu]; exact i49 t k) (by omega) ?_
      refine g_iinc (pc' := 80) (v := nI (k + 1)) (lv' := [(1, .int (nI (k + 1))), (0, .ref (b + 159))]) dX11_notes_77 rfl 1 rfl (nI_1 k) (by decide) rfl ?_
      refine g_goto (tgt := 51) dX11_notes_80 (by decide) ?_
      refine g_sub [1, 0] rfl ?_
      exact ih (k + 1) _ (by omega) (by dsimp only; rw [u2_k (by decide)]; exact hu)
set_option maxRecDepth 100000 in
set_option maxHeartbeats 4000000 in
theorem lp_n1 {l : Launch} {b : Nat} {cy : Nat → ClassId} {D : va_G} {d : Nat}      : ∀ (m : Nat) (k : Nat) (σ : Sg), k + m = 931 → σ.1 159 2 = nI 20 → Gs l b cy D (d + 0) yX11_notes cX11_notes (Option.none : Option Jvm.ClassFile.FieldType) 2 none (n2E 19 (u2 (n1F m k σ).1 159 2 ((n1F m k σ).1 159 2 - 1), (n1F m k σ).2)) 11 [(0, .ref (b + 159)), (1, .int (nI k))] [] σ := by
  intro m
  induction m with
  | zero =>
    intro k σ hk hu
    refine g_iload_n (pc' := 12) dX11_notes_11 rfl 1 rfl rfl ?_
    refine g_sipush (pc' := 15) (v := 931) dX11_notes_12 rfl (by decide) ?_
    refine g_icmp_ge (pc' := 18) (tgt := 39) dX11_notes_15 rfl (by decide) (fun (c1 : (931 : Int32) ≤ (nI k)) => ?_) (fun (c1 : ¬ (931 : Int32) ≤ (nI k)) => ?_)
    · refine g_aload_n (pc' := 40) dX11_notes_39 rfl 0 rfl rfl ?_
      refine g_dup (pc' := 41) dX11_notes_40 rfl rfl ?_
      refine g_getI (pc' := 44) dX11_notes_41 rfl (PLk.lf fX11_90) o159 rfl ?_
      refine g_iconst (pc' := 45) (v := 1) dX11_notes_44 rfl (by decide) ?_
      refine g_isub (pc' := 46) dX11_notes_45 rfl ?_
      refine g_putI (pc' := 49) dX11_notes_46 rfl fX11_90 o159 rfl ?_
      refine g_iconst (pc' := 50) (v := 0) dX11_notes_49 rfl (by decide) ?_
      refine g_istore_n (pc' := 51) (j := 1) (lv' := [(1, .int (0)), (0, .ref (b + 159))]) dX11_notes_50 rfl rfl (by decide) rfl ?_
      refine g_sub [1, 0] rfl ?_
      exact lp_n2 (t := 19) (by omega) 49 0 _ (by omega) (by dsimp only; rw [u2_eq, n1F_1 (by decide), hu]; rfl)
    · exact absurd ((nI_leI (a := 931) (b := k) (by omega) (by omega)).mpr (by omega)) c1
  | succ m ih =>
    intro k σ hk hu
    refine g_iload_n (pc' := 12) dX11_notes_11 rfl 1 rfl rfl ?_
    refine g_sipush (pc' := 15) (v := 931) dX11_notes_12 rfl (by decide) ?_
    refine g_icmp_ge (pc' := 18) (tgt := 39) dX11_notes_15 rfl (by decide) (fun (c1 : (931 : Int32) ≤ (nI k)) => ?_) (fun (c1 : ¬ (931 : Int32) ≤ (nI k)) => ?_)
    · exact absurd (nle (a := 931) (c := k) c1 rfl rfl (by omega) (by omega)) (by omega)
    · refine g_aload_n (pc' := 19) dX11_notes_18 rfl 0 rfl rfl ?_
      refine g_getR (pc' := 22) (a := 161) dX11_notes_19 rfl (PLk.lf fX11_13) o159 rfl ?_
      refine g_iload_n (pc' := 23) dX11_notes_22 rfl 1 rfl rfl ?_
      refine g_aload_n (pc' := 24) dX11_notes_23 rfl 0 rfl rfl ?_
      refine g_getR (pc' := 27) (a := 161) dX11_notes_24 rfl (PLk.lf fX11_13) o159 rfl ?_
      refine g_iload_n (pc' := 28) dX11_notes_27 rfl 1 rfl rfl ?_
      refine g_bipush (pc' := 30) (v := 49) dX11_notes_28 rfl (by decide) ?_
      refine g_iadd (pc' := 31) dX11_notes_30 rfl ?_
      refine g_iald (pc' := 32) (j := (k + 49)) dX11_notes_31 rfl o161 (by decide) (nI_add k 49) (by omega) ?_
      refine g_iast (pc' := 33) (j := k) dX11_notes_32 rfl (by decide) o161 (by decide) rfl (by omega) ?_
      refine g_iinc (pc' := 36) (v := nI (k + 1)) (lv' := [(1, .int (nI (k + 1))), (0, .ref (b + 159))]) dX11_notes_33 rfl 1 rfl (nI_1 k) (by decide) rfl ?_
      refine g_goto (tgt := 11) dX11_notes_36 (by decide) ?_
      refine g_sub [1, 0] rfl ?_
      exact ih (k + 1) _ (by omega) (by dsimp only; rw [u2_k (by decide)]; exact hu)
set_option maxRecDepth 100000 in
set_option maxHeartbeats 4000000 in
theorem ev_X11_notes {l : Launch} {b : Nat} {cy : Nat → ClassId} {D : va_G} {d : Nat}   {t : Nat} {σ : Sg}  (hu : σ.1 159 2 = nI t) (htt : t ≤ 20) : Es l b cy D (d + 0) yX11_notes cX11_notes (Option.none : Option Jvm.ClassFile.FieldType) 2 [.ref (b + 159)] σ none (sNo t σ) := by
  refine Ev.of (by decide) (Nat.le_of_ble_eq_true rfl) rfl ?_
  refine g_aload_n (pc' := 1) dX11_notes_0 rfl 0 rfl rfl ?_
  refine g_getI (pc' := 4) dX11_notes_1 rfl (PLk.lf fX11_90) o159 rfl ?_
  refine g_bipush (pc' := 6) (v := 20) dX11_notes_4 rfl (by decide) ?_
  refine g_icmp_ne (pc' := 9) (tgt := 49) dX11_notes_6 rfl (by decide) (fun (c1 : ¬ (σ.1 159 2 : Int32) = 20) => ?_) (fun (c1 : (σ.1 159 2 : Int32) = 20) => ?_)
  · refine g_iconst (pc' := 50) (v := 0) dX11_notes_49 rfl (by decide) ?_
    refine g_istore_n (pc' := 51) (j := 1) (lv' := [(1, .int (0)), (0, .ref (b + 159))]) dX11_notes_50 rfl rfl (by decide) rfl ?_
    have e20 : t ≠ 20 := fun z => c1 (by rw [hu, z]; rfl)
    rw [show sNo t σ = n2E t σ from if_neg e20]
    refine g_sub [1, 0] rfl ?_
    exact lp_n2 (t := t) (by omega) 49 0 _ (by omega) hu
  · refine g_iconst (pc' := 10) (v := 0) dX11_notes_9 rfl (by decide) ?_
    refine g_istore_n (pc' := 11) (j := 1) (lv' := [(1, .int (0)), (0, .ref (b + 159))]) dX11_notes_10 rfl rfl (by decide) rfl ?_
    have e20 : t = 20 := (nI_eq (by omega) (by decide)).mp (hu.symm.trans c1)
    rw [show sNo t σ = n2E 19 (n1E σ) from if_pos e20]
    refine g_sub [1, 0] rfl ?_
    exact lp_n1 931 0 σ (by omega) (e20 ▸ hu)
def rX11_puts (t : Nat) (n : Nat)  (σ : Sg) : Int32 := ((u2 ((sX11_laysAt n (((sNo t σ).1) 160 0) (sNo t σ)).1) 160 0 ((((sX11_laysAt n (((sNo t σ).1) 160 0) (sNo t σ)).1) 160 0) + 1)) 160 0) - 1
def sX11_puts (t : Nat) (n : Nat)  (σ : Sg) : Sg := (u2 ((sX11_laysAt n (((sNo t σ).1) 160 0) (sNo t σ)).1) 160 0 ((((sX11_laysAt n (((sNo t σ).1) 160 0) (sNo t σ)).1) 160 0) + 1), (sX11_laysAt n (((sNo t σ).1) 160 0) (sNo t σ)).2)
set_option maxRecDepth 100000 in
set_option maxHeartbeats 4000000 in
theorem ev_X11_puts {l : Launch} {b : Nat} {cy : Nat → ClassId} {D : va_G} {d : Nat} {t : Nat} {n : Nat}  {σ : Sg}  (hu : σ.1 159 2 = nI t) (htt : t ≤ 20) (hz : σ.1 160 0 = nI n) (hn : n < 12) : Es l b cy D (d + 1) yX11_puts cX11_puts (Option.some Jvm.ClassFile.FieldType.int) 1 [.ref (b + 159)] σ (some (.int (rX11_puts t n σ))) (sX11_puts t n σ) := by
  refine Ev.of (by decide) (Nat.le_of_ble_eq_true rfl) rfl ?_
  refine g_aload_n (pc' := 1) dX11_puts_0 rfl 0 rfl rfl ?_
  refine g_callv (pc' := 4) dX11_puts_1 rfl mX11_93 (ev_X11_notes (t := t) (σ := σ) hu htt (d := d)) o159 rfl (rm_ok (by omega) (by decide)) ⟨rfl, rfl⟩ ⟨Nat.zero_le _, Nat.zero_le _⟩ rfl rfl (Nat.le_of_ble_eq_true rfl) ?_
  refine g_aload_n (pc' := 5) dX11_puts_4 rfl 0 rfl rfl ?_
  refine g_aload_n (pc' := 6) dX11_puts_5 rfl 0 rfl rfl ?_
  refine g_getR (pc' := 9) (a := 160) dX11_puts_6 rfl (PLk.lf fX11_7) o159 rfl ?_
  refine g_iconst (pc' := 10) (v := 0) dX11_puts_9 rfl (by decide) ?_
  refine g_iald (pc' := 11) (j := 0) dX11_puts_10 rfl o160 (by decide) (by decide) (by decide) ?_
  refine g_callv (pc' := 14) dX11_puts_11 rfl mX11_96 (ev_X11_laysAt (s := n) (x1 := ((sNo t σ).1) 160 0) (σ := sNo t σ) (by rw [sNo_1 (by decide) (by decide)]; exact hz) hn (d := d)) o159 rfl (rm_ok (by omega) (by decide)) ⟨rfl, rfl⟩ ⟨Nat.zero_le _, Nat.zero_le _⟩ rfl rfl (Nat.le_of_ble_eq_true rfl) ?_
  refine g_aload_n (pc' := 15) dX11_puts_14 rfl 0 rfl rfl ?_
  refine g_getR (pc' := 18) (a := 160) dX11_puts_15 rfl (PLk.lf fX11_7) o159 rfl ?_
  refine g_iconst (pc' := 19) (v := 0) dX11_puts_18 rfl (by decide) ?_
  refine g_dup2 (pc' := 20) dX11_puts_19 rfl rfl rfl ?_
  refine g_iald (pc' := 21) (j := 0) dX11_puts_20 rfl o160 (by decide) (by decide) (by decide) ?_
  refine g_iconst (pc' := 22) (v := 1) dX11_puts_21 rfl (by decide) ?_
  refine g_iadd (pc' := 23) dX11_puts_22 rfl ?_
  refine g_iast (pc' := 24) (j := 0) dX11_puts_23 rfl (by decide) o160 (by decide) (by decide) (by decide) ?_
  refine g_aload_n (pc' := 25) dX11_puts_24 rfl 0 rfl rfl ?_
  refine g_getR (pc' := 28) (a := 160) dX11_puts_25 rfl (PLk.lf fX11_7) o159 rfl ?_
  refine g_iconst (pc' := 29) (v := 0) dX11_puts_28 rfl (by decide) ?_
  refine g_iald (pc' := 30) (j := 0) dX11_puts_29 rfl o160 (by decide) (by decide) (by decide) ?_
  refine g_iconst (pc' := 31) (v := 1) dX11_puts_30 rfl (by decide) ?_
  refine g_isub (pc' := 32) dX11_puts_31 rfl ?_
  exact g_iret dX11_puts_32 rfl ⟨rfl, rfl⟩ rfl
