theorem ltne {n N : Nat} {x : Int32} (hx : x = nI n) (hn : n ≤ N) (c : ¬ x = nI N) : n < N := by
  rcases Nat.lt_or_ge n N with h | h
  · exact h
  · exact absurd (by rw [hx, show n = N by omega]) c
theorem comes_1 (x : Int32) (σ : Sg) : (sX11_comes x σ).1 = σ.1 := by
  unfold sX11_comes
  split; rfl; split; rfl; split; rfl; split; rfl; split; rfl; rfl
def wrE (t n : Nat) (σ : Sg) : Int32 × Sg := (rX11_puts t n (u2 σ.1 159 8 (-1), σ.2), sX11_puts t n (u2 σ.1 159 8 (-1), σ.2))
def wrF (t n : Nat) : Nat → Nat → Sg → Int32 × Sg
  | 0, _, σ => wrE t n σ
  | m + 1, k, σ => if rX11_letterOf (σ.1 164 k) σ = -1 then (-11, (u2 σ.1 159 8 (nI k), σ.2)) else (if rX11_isWell (sX11_comes (rX11_letterOf (σ.1 164 k) σ) σ) = true then wrF t n m (k + 1) (sX11_comes (rX11_letterOf (σ.1 164 k) σ) σ) else (-12, (u2 (sX11_comes (rX11_letterOf (σ.1 164 k) σ) σ).1 159 8 (nI k), (sX11_comes (rX11_letterOf (σ.1 164 k) σ) σ).2)))
def wr0 (σ : Sg) : Sg := (u2 (sX11_takes 1 0 0 1 σ).1 159 7 0, (sX11_takes 1 0 0 1 σ).2)
def wrR (t n tl : Nat) (σ : Sg) : Int32 × Sg := if n = 12 then (-1000000004, σ) else wrF t n tl 0 (wr0 σ)
set_option maxRecDepth 100000 in
set_option maxHeartbeats 4000000 in
theorem lp_wr {l : Launch} {b : Nat} {cy : Nat → ClassId} {D : va_G} {d : Nat}   {t n tl : Nat}   (htt : t ≤ 20) (hn : n < 12) (htl : tl ≤ 60) : ∀ (m : Nat) (k : Nat) (σ : Sg), k + m = tl → σ.1 159 2 = nI t → σ.1 160 0 = nI n → Gs l b cy D (d + 3) yX11_write cX11_write (Option.some Jvm.ClassFile.FieldType.int) 4 (some (.int (wrF t n m k σ).1)) (wrF t n m k σ).2 34 [(0, .ref (b + 159)), (1, .int (nI tl)), (2, .int (nI k))] [] σ := by
  intro m
  induction m with
  | zero =>
    intro k σ hk hu hz
    refine g_iload_n (pc' := 35) dX11_write_34 rfl 2 rfl rfl ?_
    refine g_iload_n (pc' := 36) dX11_write_35 rfl 1 rfl rfl ?_
    refine g_icmp_ge (pc' := 39) (tgt := 88) dX11_write_36 rfl (by decide) (fun (c1 : (nI tl : Int32) ≤ (nI k)) => ?_) (fun (c1 : ¬ (nI tl : Int32) ≤ (nI k)) => ?_)
    · refine g_aload_n (pc' := 89) dX11_write_88 rfl 0 rfl rfl ?_
      refine g_iconst (pc' := 90) (v := -1) dX11_write_89 rfl (by decide) ?_
      refine g_putI (pc' := 93) dX11_write_90 rfl fX11_26 o159 rfl ?_
      refine g_aload_n (pc' := 94) dX11_write_93 rfl 0 rfl rfl ?_
      refine g_callr (pc' := 97) dX11_write_94 rfl mX11_111 (ev_X11_puts (t := t) (n := n) (σ := (u2 σ.1 159 8 (-1), σ.2)) (by dsimp only; rw [u2_j (by decide)]; exact hu) htt (by dsimp only; rw [u2_k (by decide)]; exact hz) hn (d := d + 1)) o159 rfl (rm_ok (by omega) (by decide)) ⟨rfl, rfl⟩ ⟨Nat.zero_le _, Nat.zero_le _⟩ rfl rfl (Nat.le_of_ble_eq_true rfl) ?_
      exact g_iret dX11_write_97 rfl ⟨rfl, rfl⟩ rfl
    · exact absurd ((nI_leI (a := tl) (b := k) (by omega) (by omega)).mpr (by omega)) c1
  | succ m ih =>
    intro k σ hk hu hz
    refine g_iload_n (pc' := 35) dX11_write_34 rfl 2 rfl rfl ?_
    refine g_iload_n (pc' := 36) dX11_write_35 rfl 1 rfl rfl ?_
    refine g_icmp_ge (pc' := 39) (tgt := 88) dX11_write_36 rfl (by decide) (fun (c1 : (nI tl : Int32) ≤ (nI k)) => ?_) (fun (c1 : ¬ (nI tl : Int32) ≤ (nI k)) => ?_)
    · exact absurd (nle (a := tl) (c := k) c1 rfl rfl (by omega) (by omega)) (by omega)
    · refine g_aload_n (pc' := 40) dX11_write_39 rfl 0 rfl rfl ?_
      refine g_getR (pc' := 43) (a := 164) dX11_write_40 rfl (PLk.lf fX11_23) o159 rfl ?_
      refine g_iload_n (pc' := 44) dX11_write_43 rfl 2 rfl rfl ?_
      refine g_iald (pc' := 45) (j := k) dX11_write_44 rfl o164 (by decide) rfl (by omega) ?_
      refine g_callsr (pc' := 48) dX11_write_45 rfl mX11_100 (ev_X11_letterOf (x1 := σ.1 164 k) (σ := σ)  (d := d + 2)) (rm_ok (by omega) (by decide)) ⟨rfl, rfl⟩ ⟨Nat.zero_le _, Nat.zero_le _⟩ rfl rfl (Nat.le_of_ble_eq_true rfl) ?_
      refine g_istore_n (pc' := 49) (j := 3) (lv' := [(3, .int (rX11_letterOf (σ.1 164 k) σ)), (0, .ref (b + 159)), (1, .int (nI tl)), (2, .int (nI k))]) dX11_write_48 rfl rfl (by decide) rfl ?_
      refine g_iload_n (pc' := 50) dX11_write_49 rfl 0 rfl rfl ?_
      refine g_iconst (pc' := 51) (v := -1) dX11_write_50 rfl (by decide) ?_
      refine g_icmp_ne (pc' := 54) (tgt := 62) dX11_write_51 rfl (by decide) (fun (c2 : ¬ (rX11_letterOf (σ.1 164 k) σ : Int32) = (-1)) => ?_) (fun (c2 : (rX11_letterOf (σ.1 164 k) σ : Int32) = (-1)) => ?_)
      · refine g_aload_n (pc' := 63) dX11_write_62 rfl 1 rfl rfl ?_
        refine g_iload_n (pc' := 64) dX11_write_63 rfl 0 rfl rfl ?_
        refine g_callv (pc' := 67) dX11_write_64 rfl mX11_104 (ev_X11_comes (x1 := rX11_letterOf (σ.1 164 k) σ) (σ := σ)  (d := d)) o159 rfl (rm_ok (by omega) (by decide)) ⟨rfl, rfl⟩ ⟨Nat.zero_le _, Nat.zero_le _⟩ rfl rfl (Nat.le_of_ble_eq_true rfl) ?_
        refine g_aload_n (pc' := 68) dX11_write_67 rfl 1 rfl rfl ?_
        refine g_callr (pc' := 71) dX11_write_68 rfl mX11_107 (ev_X11_isWell  (σ := sX11_comes (rX11_letterOf (σ.1 164 k) σ) σ)  (d := d)) o159 rfl (rm_ok (by omega) (by decide)) ⟨rfl, rfl⟩ ⟨Nat.zero_le _, Nat.zero_le _⟩ rfl rfl (Nat.le_of_ble_eq_true rfl) ?_
        refine g_ifb_ne (pc' := 74) (tgt := 82) dX11_write_71 rfl (by decide) (fun (c3 : (rX11_isWell (sX11_comes (rX11_letterOf (σ.1 164 k) σ) σ)) = true) => ?_) (fun (c3 : (rX11_isWell (sX11_comes (rX11_letterOf (σ.1 164 k) σ) σ)) = false) => ?_)
        · refine g_iinc (pc' := 85) (v := nI (k + 1)) (lv' := [(2, .int (nI (k + 1))), (3, .int (rX11_letterOf (σ.1 164 k) σ)), (0, .ref (b + 159)), (1, .int (nI tl))]) dX11_write_82 rfl 3 rfl (nI_1 k) (by decide) rfl ?_
          refine g_goto (tgt := 34) dX11_write_85 (by decide) ?_
          rw [show wrF t n (m + 1) k σ = wrF t n m (k + 1) (sX11_comes (rX11_letterOf (σ.1 164 k) σ) σ) by rw [wrF, if_neg c2, if_pos c3]]
          refine g_sub [2, 3, 0] rfl ?_
          exact ih (k + 1) _ (by omega) (by rw [comes_1]; exact hu) (by rw [comes_1]; exact hz)
        · refine g_aload_n (pc' := 75) dX11_write_74 rfl 1 rfl rfl ?_
          refine g_iload_n (pc' := 76) dX11_write_75 rfl 3 rfl rfl ?_
          refine g_putI (pc' := 79) dX11_write_76 rfl fX11_26 o159 rfl ?_
          refine g_bipush (pc' := 81) (v := -12) dX11_write_79 rfl (by decide) ?_
          exact g_iret dX11_write_81 rfl ⟨rfl, rfl⟩ (by rw [wrF, if_neg c2, if_neg (bf c3)])
      · refine g_aload_n (pc' := 55) dX11_write_54 rfl 1 rfl rfl ?_
        refine g_iload_n (pc' := 56) dX11_write_55 rfl 3 rfl rfl ?_
        refine g_putI (pc' := 59) dX11_write_56 rfl fX11_26 o159 rfl ?_
        refine g_bipush (pc' := 61) (v := -11) dX11_write_59 rfl (by decide) ?_
        exact g_iret dX11_write_61 rfl ⟨rfl, rfl⟩ (by rw [wrF, if_pos c2])
set_option maxRecDepth 100000 in
set_option maxHeartbeats 4000000 in
theorem ev_X11_write {l : Launch} {b : Nat} {cy : Nat → ClassId} {D : va_G} {d : Nat}   {t : Nat} {n : Nat} {tl : Nat} {σ : Sg}  (hu : σ.1 159 2 = nI t) (htt : t ≤ 20) (hz : σ.1 160 0 = nI n) (hn : n ≤ 12) (ht : σ.1 159 7 = nI tl) (htl : tl ≤ 60) : Es l b cy D (d + 3) yX11_write cX11_write (Option.some Jvm.ClassFile.FieldType.int) 4 [.ref (b + 159)] σ (some (.int ((wrR t n tl σ).1))) ((wrR t n tl σ).2) := by
  refine Ev.of (by decide) (Nat.le_of_ble_eq_true rfl) rfl ?_
  refine g_aload_n (pc' := 1) dX11_write_0 rfl 0 rfl rfl ?_
  refine g_getR (pc' := 4) (a := 160) dX11_write_1 rfl (PLk.lf fX11_7) o159 rfl ?_
  refine g_iconst (pc' := 5) (v := 0) dX11_write_4 rfl (by decide) ?_
  refine g_iald (pc' := 6) (j := 0) dX11_write_5 rfl o160 (by decide) (by decide) (by decide) ?_
  refine g_bipush (pc' := 8) (v := 12) dX11_write_6 rfl (by decide) ?_
  refine g_icmp_ne (pc' := 11) (tgt := 14) dX11_write_8 rfl (by decide) (fun (c1 : ¬ (σ.1 160 0 : Int32) = 12) => ?_) (fun (c1 : (σ.1 160 0 : Int32) = 12) => ?_)
  · refine g_aload_n (pc' := 15) dX11_write_14 rfl 0 rfl rfl ?_
    refine g_lconst (pc' := 16) (v := 1) dX11_write_15 rfl (by decide) ?_
    refine g_lconst (pc' := 17) (v := 0) dX11_write_16 rfl (by decide) ?_
    refine g_lconst (pc' := 18) (v := 0) dX11_write_17 rfl (by decide) ?_
    refine g_lconst (pc' := 19) (v := 1) dX11_write_18 rfl (by decide) ?_
    refine g_callv (pc' := 22) dX11_write_19 rfl mX11_70 (ev_X11_takes (x1 := 1) (x2 := 0) (x3 := 0) (x4 := 1) (σ := σ)  (d := d + 2)) o159 rfl (rm_ok (by omega) (by decide)) ⟨rfl, rfl⟩ ⟨Nat.zero_le _, Nat.zero_le _⟩ rfl rfl (Nat.le_of_ble_eq_true rfl) ?_
    refine g_aload_n (pc' := 23) dX11_write_22 rfl 0 rfl rfl ?_
    refine g_getI (pc' := 26) dX11_write_23 rfl (PLk.lf fX11_86) o159 rfl ?_
    refine g_istore_n (pc' := 27) (j := 1) (lv' := [(1, .int (((sX11_takes 1 0 0 1 σ).1) 159 7)), (0, .ref (b + 159))]) dX11_write_26 rfl rfl (by decide) rfl ?_
    refine g_aload_n (pc' := 28) dX11_write_27 rfl 1 rfl rfl ?_
    refine g_iconst (pc' := 29) (v := 0) dX11_write_28 rfl (by decide) ?_
    refine g_putI (pc' := 32) dX11_write_29 rfl fX11_86 o159 rfl ?_
    refine g_iconst (pc' := 33) (v := 0) dX11_write_32 rfl (by decide) ?_
    refine g_istore_n (pc' := 34) (j := 2) (lv' := [(2, .int (0)), (1, .int (((sX11_takes 1 0 0 1 σ).1) 159 7)), (0, .ref (b + 159))]) dX11_write_33 rfl rfl (by decide) rfl ?_
    have n12 : n ≠ 12 := fun z => c1 (by rw [hz, z]; rfl)
    rw [show wrR t n tl σ = wrF t n tl 0 (wr0 σ) from if_neg n12]
    have g0 := lp_wr (l := l) (b := b) (cy := cy) (D := D) (d := d) htt (show n < 12 by omega) htl tl 0 (wr0 σ) (by omega) (by unfold wr0; dsimp only; rw [u2_j (by decide)]; exact hu) (by unfold wr0; dsimp only; rw [u2_k (by decide)]; exact hz)
    rw [← ht] at g0
    refine g_sub [2, 1, 0] rfl ?_
    exact g0
  · refine g_ldc (pc' := 13) dX11_write_11 rfl kX11_89 ?_
    exact g_iret dX11_write_13 rfl ⟨rfl, rfl⟩ (by rw [show wrR t n tl σ = (-1000000004, σ) from if_pos ((nI_eq (by omega) (by decide)).mp (hz.symm.trans c1))])
def rX11_put (t : Nat) (n : Nat) (x1 : Int32) (x2 : Int32) (x3 : Int32) (x4 : Int32) (σ : Sg) : Int32 := if (rX11_isBound ((x1 : Int32).toInt64) σ) = true then if (rX11_isBound ((x2 : Int32).toInt64) σ) = true then if (rX11_isBound ((x3 : Int32).toInt64) σ) = true then if (rX11_isBound ((x4 : Int32).toInt64) σ) = true then if ((((x1 : Int32).toInt64) * ((x4 : Int32).toInt64)) - (((x2 : Int32).toInt64) * ((x3 : Int32).toInt64)) : Int64) = 1 then if (σ.1 160 0 : Int32) = 12 then -1000000004 else rX11_puts t n (sX11_takes ((x1 : Int32).toInt64) ((x2 : Int32).toInt64) ((x3 : Int32).toInt64) ((x4 : Int32).toInt64) σ) else -1000000003 else -1000000002 else -1000000002 else -1000000002 else -1000000002
def sX11_put (t : Nat) (n : Nat) (x1 : Int32) (x2 : Int32) (x3 : Int32) (x4 : Int32) (σ : Sg) : Sg := if (rX11_isBound ((x1 : Int32).toInt64) σ) = true then if (rX11_isBound ((x2 : Int32).toInt64) σ) = true then if (rX11_isBound ((x3 : Int32).toInt64) σ) = true then if (rX11_isBound ((x4 : Int32).toInt64) σ) = true then if ((((x1 : Int32).toInt64) * ((x4 : Int32).toInt64)) - (((x2 : Int32).toInt64) * ((x3 : Int32).toInt64)) : Int64) = 1 then if (σ.1 160 0 : Int32) = 12 then σ else sX11_puts t n (sX11_takes ((x1 : Int32).toInt64) ((x2 : Int32).toInt64) ((x3 : Int32).toInt64) ((x4 : Int32).toInt64) σ) else σ else σ else σ else σ else σ
set_option maxRecDepth 100000 in
set_option maxHeartbeats 4000000 in
theorem ev_X11_put {l : Launch} {b : Nat} {cy : Nat → ClassId} {D : va_G} {d : Nat} {t : Nat} {n : Nat} {x1 : Int32} {x2 : Int32} {x3 : Int32} {x4 : Int32} {σ : Sg}  (hu : σ.1 159 2 = nI t) (htt : t ≤ 20) (hz : σ.1 160 0 = nI n) (hn : n ≤ 12) : Es l b cy D (d + 2) yX11_put cX11_put (Option.some Jvm.ClassFile.FieldType.int) 5 [.ref (b + 159), .int (x1), .int (x2), .int (x3), .int (x4)] σ (some (.int (rX11_put t n x1 x2 x3 x4 σ))) (sX11_put t n x1 x2 x3 x4 σ) := by
  refine Ev.of (by decide) (Nat.le_of_ble_eq_true rfl) rfl ?_
  refine g_iload_n (pc' := 1) dX11_put_0 rfl 1 rfl rfl ?_
  refine g_i2l (pc' := 2) dX11_put_1 rfl ?_
  refine g_callsr (pc' := 5) dX11_put_2 rfl mX11_74 (ev_X11_isBound (x1 := (x1 : Int32).toInt64) (σ := σ)  (d := d)) (rm_ok (by omega) (by decide)) ⟨rfl, rfl⟩ ⟨Nat.zero_le _, Nat.zero_le _⟩ rfl rfl (Nat.le_of_ble_eq_true rfl) ?_
  refine g_ifb_eq (pc' := 8) (tgt := 33) dX11_put_5 rfl (by decide) (fun (c1 : (rX11_isBound ((x1 : Int32).toInt64) σ) = false) => ?_) (fun (c1 : (rX11_isBound ((x1 : Int32).toInt64) σ) = true) => ?_)
  · refine g_ldc (pc' := 35) dX11_put_33 rfl kX11_85 ?_
    exact g_iret dX11_put_35 rfl ⟨rfl, rfl⟩ (by simp only [rX11_put, sX11_put, if_neg (bf c1), bI_t, bI_f])
  · refine g_iload_n (pc' := 9) dX11_put_8 rfl 2 rfl rfl ?_
    refine g_i2l (pc' := 10) dX11_put_9 rfl ?_
    refine g_callsr (pc' := 13) dX11_put_10 rfl mX11_74 (ev_X11_isBound (x1 := (x2 : Int32).toInt64) (σ := σ)  (d := d)) (rm_ok (by omega) (by decide)) ⟨rfl, rfl⟩ ⟨Nat.zero_le _, Nat.zero_le _⟩ rfl rfl (Nat.le_of_ble_eq_true rfl) ?_
    refine g_ifb_eq (pc' := 16) (tgt := 33) dX11_put_13 rfl (by decide) (fun (c2 : (rX11_isBound ((x2 : Int32).toInt64) σ) = false) => ?_) (fun (c2 : (rX11_isBound ((x2 : Int32).toInt64) σ) = true) => ?_)
    · refine g_ldc (pc' := 35) dX11_put_33 rfl kX11_85 ?_
      exact g_iret dX11_put_35 rfl ⟨rfl, rfl⟩ (by simp only [rX11_put, sX11_put, if_pos c1, if_neg (bf c2), bI_t, bI_f])
    · refine g_iload_n (pc' := 17) dX11_put_16 rfl 3 rfl rfl ?_
      refine g_i2l (pc' := 18) dX11_put_17 rfl ?_
      refine g_callsr (pc' := 21) dX11_put_18 rfl mX11_74 (ev_X11_isBound (x1 := (x3 : Int32).toInt64) (σ := σ)  (d := d)) (rm_ok (by omega) (by decide)) ⟨rfl, rfl⟩ ⟨Nat.zero_le _, Nat.zero_le _⟩ rfl rfl (Nat.le_of_ble_eq_true rfl) ?_
      refine g_ifb_eq (pc' := 24) (tgt := 33) dX11_put_21 rfl (by decide) (fun (c3 : (rX11_isBound ((x3 : Int32).toInt64) σ) = false) => ?_) (fun (c3 : (rX11_isBound ((x3 : Int32).toInt64) σ) = true) => ?_)
      · refine g_ldc (pc' := 35) dX11_put_33 rfl kX11_85 ?_
        exact g_iret dX11_put_35 rfl ⟨rfl, rfl⟩ (by simp only [rX11_put, sX11_put, if_pos c1, if_pos c2, if_neg (bf c3), bI_t, bI_f])
      · refine g_iload (pc' := 26) dX11_put_24 rfl 4 rfl ?_
        refine g_i2l (pc' := 27) dX11_put_26 rfl ?_
        refine g_callsr (pc' := 30) dX11_put_27 rfl mX11_74 (ev_X11_isBound (x1 := (x4 : Int32).toInt64) (σ := σ)  (d := d)) (rm_ok (by omega) (by decide)) ⟨rfl, rfl⟩ ⟨Nat.zero_le _, Nat.zero_le _⟩ rfl rfl (Nat.le_of_ble_eq_true rfl) ?_
        refine g_ifb_ne (pc' := 33) (tgt := 36) dX11_put_30 rfl (by decide) (fun (c4 : (rX11_isBound ((x4 : Int32).toInt64) σ) = true) => ?_) (fun (c4 : (rX11_isBound ((x4 : Int32).toInt64) σ) = false) => ?_)
        · refine g_iload_n (pc' := 37) dX11_put_36 rfl 1 rfl rfl ?_
          refine g_i2l (pc' := 38) dX11_put_37 rfl ?_
          refine g_iload (pc' := 40) dX11_put_38 rfl 4 rfl ?_
          refine g_i2l (pc' := 41) dX11_put_40 rfl ?_
          refine g_lmul (pc' := 42) dX11_put_41 rfl ?_
          refine g_iload_n (pc' := 43) dX11_put_42 rfl 2 rfl rfl ?_
          refine g_i2l (pc' := 44) dX11_put_43 rfl ?_
          refine g_iload_n (pc' := 45) dX11_put_44 rfl 3 rfl rfl ?_
          refine g_i2l (pc' := 46) dX11_put_45 rfl ?_
          refine g_lmul (pc' := 47) dX11_put_46 rfl ?_
          refine g_lsub (pc' := 48) dX11_put_47 rfl ?_
          refine g_lconst (pc' := 49) (v := 1) dX11_put_48 rfl (by decide) ?_
          refine g_lif_eq (pc' := 53) (tgt := 56) dX11_put_49 dX11_put_50 rfl (by decide) (fun (c5 : ((((x1 : Int32).toInt64) * ((x4 : Int32).toInt64)) - (((x2 : Int32).toInt64) * ((x3 : Int32).toInt64)) : Int64) = 1) => ?_) (fun (c5 : ¬ ((((x1 : Int32).toInt64) * ((x4 : Int32).toInt64)) - (((x2 : Int32).toInt64) * ((x3 : Int32).toInt64)) : Int64) = 1) => ?_)
          · refine g_aload_n (pc' := 57) dX11_put_56 rfl 0 rfl rfl ?_
            refine g_getR (pc' := 60) (a := 160) dX11_put_57 rfl (PLk.lf fX11_7) o159 rfl ?_
            refine g_iconst (pc' := 61) (v := 0) dX11_put_60 rfl (by decide) ?_
            refine g_iald (pc' := 62) (j := 0) dX11_put_61 rfl o160 (by decide) (by decide) (by decide) ?_
            refine g_bipush (pc' := 64) (v := 12) dX11_put_62 rfl (by decide) ?_
            refine g_icmp_ne (pc' := 67) (tgt := 70) dX11_put_64 rfl (by decide) (fun (c6 : ¬ (σ.1 160 0 : Int32) = 12) => ?_) (fun (c6 : (σ.1 160 0 : Int32) = 12) => ?_)
            · have n12 : n < 12 := ltne (N := 12) hz hn c6
              refine g_aload_n (pc' := 71) dX11_put_70 rfl 0 rfl rfl ?_
              refine g_iload_n (pc' := 72) dX11_put_71 rfl 1 rfl rfl ?_
              refine g_i2l (pc' := 73) dX11_put_72 rfl ?_
              refine g_iload_n (pc' := 74) dX11_put_73 rfl 2 rfl rfl ?_
              refine g_i2l (pc' := 75) dX11_put_74 rfl ?_
              refine g_iload_n (pc' := 76) dX11_put_75 rfl 3 rfl rfl ?_
              refine g_i2l (pc' := 77) dX11_put_76 rfl ?_
              refine g_iload (pc' := 79) dX11_put_77 rfl 4 rfl ?_
              refine g_i2l (pc' := 80) dX11_put_79 rfl ?_
              refine g_callv (pc' := 83) dX11_put_80 rfl mX11_70 (ev_X11_takes (x1 := (x1 : Int32).toInt64) (x2 := (x2 : Int32).toInt64) (x3 := (x3 : Int32).toInt64) (x4 := (x4 : Int32).toInt64) (σ := σ)  (d := d + 1)) o159 rfl (rm_ok (by omega) (by decide)) ⟨rfl, rfl⟩ ⟨Nat.zero_le _, Nat.zero_le _⟩ rfl rfl (Nat.le_of_ble_eq_true rfl) ?_
              refine g_aload_n (pc' := 84) dX11_put_83 rfl 0 rfl rfl ?_
              refine g_callr (pc' := 87) dX11_put_84 rfl mX11_111 (ev_X11_puts (t := t) (n := n) (σ := sX11_takes ((x1 : Int32).toInt64) ((x2 : Int32).toInt64) ((x3 : Int32).toInt64) ((x4 : Int32).toInt64) σ) hu htt hz n12 (d := d)) o159 rfl (rm_ok (by omega) (by decide)) ⟨rfl, rfl⟩ ⟨Nat.zero_le _, Nat.zero_le _⟩ rfl rfl (Nat.le_of_ble_eq_true rfl) ?_
              exact g_iret dX11_put_87 rfl ⟨rfl, rfl⟩ (by simp only [rX11_put, sX11_put, if_pos c1, if_pos c2, if_pos c3, if_pos c4, if_pos c5, if_neg c6, bI_t, bI_f])
            · refine g_ldc (pc' := 69) dX11_put_67 rfl kX11_89 ?_
              exact g_iret dX11_put_69 rfl ⟨rfl, rfl⟩ (by simp only [rX11_put, sX11_put, if_pos c1, if_pos c2, if_pos c3, if_pos c4, if_pos c5, if_pos c6, bI_t, bI_f])
          · refine g_ldc (pc' := 55) dX11_put_53 rfl kX11_115 ?_
            exact g_iret dX11_put_55 rfl ⟨rfl, rfl⟩ (by simp only [rX11_put, sX11_put, if_pos c1, if_pos c2, if_pos c3, if_pos c4, if_neg c5, bI_t, bI_f])
        · refine g_ldc (pc' := 35) dX11_put_33 rfl kX11_85 ?_
          exact g_iret dX11_put_35 rfl ⟨rfl, rfl⟩ (by simp only [rX11_put, sX11_put, if_pos c1, if_pos c2, if_pos c3, if_neg (bf c4), bI_t, bI_f])
theorem lrem_abs {x w : Int64} (h : ¬ w = 0) : (x - x / w * w).toInt.natAbs < w.toInt.natAbs := by
  rw [Jvm.Kit.i64_rem]
  have h0 : w.toInt ≠ 0 := fun z => h (Int64.toInt_inj.mp (by rw [z]; rfl))
  rw [Int.natAbs_tmod]
  exact Nat.mod_lt _ (by omega)
def bt : Nat → Int64
  | 0 => 0
  | m + 1 => lN (2 ^ m)
theorem bt_pos : ∀ m, m < 22 → 0 < bt (m + 1) := by decide +kernel
theorem bt_shr : ∀ m, m < 22 → bt (m + 1) >>> ((1 : Int32).toInt64 &&& 63) = bt m := by decide +kernel
def rtF (v : Int64) : Nat → Int64 → Int64
  | 0, r => r
  | m + 1, r => rtF v m (if v < (r + bt (m + 1)) * (r + bt (m + 1)) then r else r + bt (m + 1))
set_option maxRecDepth 100000 in
set_option maxHeartbeats 4000000 in
theorem lp_div {l : Launch} {b : Nat} {cy : Nat → ClassId} {D : va_G} {d : Nat}   {σ : Sg}   : ∀ (m : Nat) (g : Int64) (q : Int64), q.toInt.natAbs < m → Gs l b cy D (d + 1) yX11_divisor cX11_divisor (Option.some Jvm.ClassFile.FieldType.long) 10 (some (.long (gcdF m g q))) σ 12 [(4, .long (g)), (6, .long (q))] [] σ := by
  intro m
  induction m with
  | zero =>
    intro g q hm
    refine g_lload (pc' := 14) dX11_divisor_12 rfl 1 rfl ?_
    refine g_lconst (pc' := 15) (v := 0) dX11_divisor_14 rfl (by decide) ?_
    refine g_lif_eq (pc' := 19) (tgt := 37) dX11_divisor_15 dX11_divisor_16 rfl (by decide) (fun (c1 : (q : Int64) = 0) => ?_) (fun (c1 : ¬ (q : Int64) = 0) => ?_)
    · exact absurd hm (Nat.not_lt_zero _)
    · exact absurd hm (Nat.not_lt_zero _)
  | succ m ih =>
    intro g q hm
    refine g_lload (pc' := 14) dX11_divisor_12 rfl 1 rfl ?_
    refine g_lconst (pc' := 15) (v := 0) dX11_divisor_14 rfl (by decide) ?_
    refine g_lif_eq (pc' := 19) (tgt := 37) dX11_divisor_15 dX11_divisor_16 rfl (by decide) (fun (c1 : (q : Int64) = 0) => ?_) (fun (c1 : ¬ (q : Int64) = 0) => ?_)
    · refine g_lload (pc' := 39) dX11_divisor_37 rfl 0 rfl ?_
      exact g_lret dX11_divisor_39 rfl ⟨rfl, rfl⟩ (by rw [gcdF, if_pos c1])
    · refine g_lload (pc' := 21) dX11_divisor_19 rfl 0 rfl ?_
      refine g_lload (pc' := 23) dX11_divisor_21 rfl 1 rfl ?_
      refine g_lrem (pc' := 24) dX11_divisor_23 rfl c1 ?_
      refine g_lstore (pc' := 26) (j := 8) (lv' := [(8, .long (g - g / q * q)), (4, .long (g)), (6, .long (q))]) dX11_divisor_24 rfl (by decide) rfl ?_
      refine g_lload (pc' := 28) dX11_divisor_26 rfl 2 rfl ?_
      refine g_lstore (pc' := 30) (j := 4) (lv' := [(4, .long (q)), (8, .long (g - g / q * q)), (6, .long (q))]) dX11_divisor_28 rfl (by decide) rfl ?_
      refine g_lload (pc' := 32) dX11_divisor_30 rfl 1 rfl ?_
      refine g_lstore (pc' := 34) (j := 6) (lv' := [(6, .long (g - g / q * q)), (4, .long (q)), (8, .long (g - g / q * q))]) dX11_divisor_32 rfl (by decide) rfl ?_
      refine g_goto (tgt := 12) dX11_divisor_34 (by decide) ?_
      rw [show gcdF (m + 1) g q = gcdF m q (g - g / q * q) by rw [gcdF, if_neg c1]]
      refine g_sub [1, 0] rfl ?_
      exact ih _ _ (by have := lrem_abs (x := g) c1; omega)
set_option maxRecDepth 100000 in
set_option maxHeartbeats 4000000 in
theorem ev_X11_divisor {l : Launch} {b : Nat} {cy : Nat → ClassId} {D : va_G} {d : Nat}  {x1 : Int64} {x2 : Int64}  {σ : Sg}   : Es l b cy D (d + 1) yX11_divisor cX11_divisor (Option.some Jvm.ClassFile.FieldType.long) 10 [.long (x1), .long (x2)] σ (some (.long (gcdF ((rX11_far x2 σ).toInt.natAbs + 1) (rX11_far x1 σ) (rX11_far x2 σ)))) σ := by
  refine Ev.of (by decide) (Nat.le_of_ble_eq_true rfl) rfl ?_
  refine g_lload_n (pc' := 1) dX11_divisor_0 rfl 0 rfl rfl ?_
  refine g_callsr (pc' := 4) dX11_divisor_1 rfl mX11_116 (ev_X11_far (x1 := x1) (σ := σ)  (d := d)) (rm_ok (by omega) (by decide)) ⟨rfl, rfl⟩ ⟨Nat.zero_le _, Nat.zero_le _⟩ rfl rfl (Nat.le_of_ble_eq_true rfl) ?_
  refine g_lstore (pc' := 6) (j := 4) (lv' := [(4, .long (rX11_far x1 σ)), (0, .long (x1)), (2, .long (x2))]) dX11_divisor_4 rfl (by decide) rfl ?_
  refine g_lload_n (pc' := 7) dX11_divisor_6 rfl 2 rfl rfl ?_
  refine g_callsr (pc' := 10) dX11_divisor_7 rfl mX11_116 (ev_X11_far (x1 := x2) (σ := σ)  (d := d)) (rm_ok (by omega) (by decide)) ⟨rfl, rfl⟩ ⟨Nat.zero_le _, Nat.zero_le _⟩ rfl rfl (Nat.le_of_ble_eq_true rfl) ?_
  refine g_lstore (pc' := 12) (j := 6) (lv' := [(6, .long (rX11_far x2 σ)), (4, .long (rX11_far x1 σ)), (0, .long (x1)), (2, .long (x2))]) dX11_divisor_10 rfl (by decide) rfl ?_
  refine g_sub [1, 0] rfl ?_
  exact lp_div _ _ _ (Nat.lt_succ_self _)
set_option maxRecDepth 100000 in
set_option maxHeartbeats 4000000 in
theorem lp_rt {l : Launch} {b : Nat} {cy : Nat → ClassId} {D : va_G} {d : Nat}  {x1 : Int64} {σ : Sg}   : ∀ (m : Nat) (r : Int64), m ≤ 22 → Gs l b cy D (d + 0) yX11_root cX11_root (Option.some Jvm.ClassFile.FieldType.long) 8 (some (.long (rtF x1 m r))) σ 7 [(0, .long (x1)), (2, .long (r)), (4, .long (bt m))] [] σ := by
  intro m
  induction m with
  | zero =>
    intro r hm
    refine g_lload (pc' := 9) dX11_root_7 rfl 2 rfl ?_
    refine g_lconst (pc' := 10) (v := 0) dX11_root_9 rfl (by decide) ?_
    refine g_lif_le (pc' := 14) (tgt := 46) dX11_root_10 dX11_root_11 rfl (by decide) (fun (c1 : ¬ (0 : Int64) < (bt 0)) => ?_) (fun (c1 : (0 : Int64) < (bt 0)) => ?_)
    · refine g_lload_n (pc' := 47) dX11_root_46 rfl 1 rfl rfl ?_
      exact g_lret dX11_root_47 rfl ⟨rfl, rfl⟩ rfl
    · exact absurd c1 (show ¬ (0 : Int64) < 0 by decide)
  | succ m ih =>
    intro r hm
    refine g_lload (pc' := 9) dX11_root_7 rfl 2 rfl ?_
    refine g_lconst (pc' := 10) (v := 0) dX11_root_9 rfl (by decide) ?_
    refine g_lif_le (pc' := 14) (tgt := 46) dX11_root_10 dX11_root_11 rfl (by decide) (fun (c1 : ¬ (0 : Int64) < (bt (m + 1))) => ?_) (fun (c1 : (0 : Int64) < (bt (m + 1))) => ?_)
    · exact absurd (bt_pos m (by omega)) c1
    · refine g_lload_n (pc' := 15) dX11_root_14 rfl 1 rfl rfl ?_
      refine g_lload (pc' := 17) dX11_root_15 rfl 2 rfl ?_
      refine g_ladd (pc' := 18) dX11_root_17 rfl ?_
      refine g_lstore (pc' := 20) (j := 6) (lv' := [(6, .long (r + (bt (m + 1)))), (0, .long (x1)), (2, .long (r)), (4, .long (bt (m + 1)))]) dX11_root_18 rfl (by decide) rfl ?_
      refine g_lload (pc' := 22) dX11_root_20 rfl 0 rfl ?_
      refine g_lload (pc' := 24) dX11_root_22 rfl 0 rfl ?_
      refine g_lmul (pc' := 25) dX11_root_24 rfl ?_
      refine g_lload_n (pc' := 26) dX11_root_25 rfl 1 rfl rfl ?_
      refine g_lif_gt (pc' := 30) (tgt := 35) dX11_root_26 dX11_root_27 rfl (by decide) (fun (c2 : (x1 : Int64) < ((r + (bt (m + 1))) * (r + (bt (m + 1))))) => ?_) (fun (c2 : ¬ (x1 : Int64) < ((r + (bt (m + 1))) * (r + (bt (m + 1))))) => ?_)
      · refine g_lload_n (pc' := 36) dX11_root_35 rfl 2 rfl rfl ?_
        refine g_lstore_n (pc' := 37) (j := 2) (lv' := [(2, .long (r)), (6, .long (r + (bt (m + 1)))), (0, .long (x1)), (4, .long (bt (m + 1)))]) dX11_root_36 rfl rfl (by decide) rfl ?_
        refine g_lload (pc' := 39) dX11_root_37 rfl 3 rfl ?_
        refine g_iconst (pc' := 40) (v := 1) dX11_root_39 rfl (by decide) ?_
        refine g_lshr (pc' := 41) dX11_root_40 rfl ?_
        refine g_lstore (pc' := 43) (j := 4) (lv' := [(4, .long ((bt (m + 1)) >>> ((1 : Int32).toInt64 &&& 63))), (2, .long (r)), (6, .long (r + (bt (m + 1)))), (0, .long (x1))]) dX11_root_41 rfl (by decide) rfl ?_
        refine g_goto (tgt := 7) dX11_root_43 (by decide) ?_
        rw [show rtF x1 (m + 1) r = rtF x1 m r by rw [rtF, if_pos c2]]
        rw [bt_shr m (by omega)]
        refine g_sub [3, 1, 0] rfl ?_
        exact ih _ (by omega)
      · refine g_lload (pc' := 32) dX11_root_30 rfl 0 rfl ?_
        refine g_goto (tgt := 36) dX11_root_32 (by decide) ?_
        refine g_lstore_n (pc' := 37) (j := 2) (lv' := [(2, .long (r + (bt (m + 1)))), (6, .long (r + (bt (m + 1)))), (0, .long (x1)), (4, .long (bt (m + 1)))]) dX11_root_36 rfl rfl (by decide) rfl ?_
        refine g_lload (pc' := 39) dX11_root_37 rfl 3 rfl ?_
        refine g_iconst (pc' := 40) (v := 1) dX11_root_39 rfl (by decide) ?_
        refine g_lshr (pc' := 41) dX11_root_40 rfl ?_
        refine g_lstore (pc' := 43) (j := 4) (lv' := [(4, .long ((bt (m + 1)) >>> ((1 : Int32).toInt64 &&& 63))), (2, .long (r + (bt (m + 1)))), (6, .long (r + (bt (m + 1)))), (0, .long (x1))]) dX11_root_41 rfl (by decide) rfl ?_
        refine g_goto (tgt := 7) dX11_root_43 (by decide) ?_
        rw [show rtF x1 (m + 1) r = rtF x1 m (r + (bt (m + 1))) by rw [rtF, if_neg c2]]
        rw [bt_shr m (by omega)]
        refine g_sub [3, 1, 0] rfl ?_
        exact ih _ (by omega)
set_option maxRecDepth 100000 in
set_option maxHeartbeats 4000000 in
theorem ev_X11_root {l : Launch} {b : Nat} {cy : Nat → ClassId} {D : va_G} {d : Nat}  {x1 : Int64}  {σ : Sg}   : Es l b cy D (d + 0) yX11_root cX11_root (Option.some Jvm.ClassFile.FieldType.long) 8 [.long (x1)] σ (some (.long (rtF x1 22 0))) σ := by
  refine Ev.of (by decide) (Nat.le_of_ble_eq_true rfl) rfl ?_
  refine g_lconst (pc' := 1) (v := 0) dX11_root_0 rfl (by decide) ?_
  refine g_lstore_n (pc' := 2) (j := 2) (lv' := [(2, .long (0)), (0, .long (x1))]) dX11_root_1 rfl rfl (by decide) rfl ?_
  refine g_ldc2 (pc' := 5) dX11_root_2 rfl kX11_120 ?_
  refine g_lstore (pc' := 7) (j := 4) (lv' := [(4, .long (2097152)), (2, .long (0)), (0, .long (x1))]) dX11_root_5 rfl (by decide) rfl ?_
  refine g_sub [2, 1, 0] rfl ?_
  exact lp_rt 22 0 (by omega)
