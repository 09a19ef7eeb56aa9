set_option maxRecDepth 100000 in
set_option maxHeartbeats 4000000 in
theorem lp_mless {l : Launch} {b : Nat} {cy : Nat → ClassId} {D : va_G} {d : Nat}   {n x y : Nat} {σ : Sg}  (hc : σ.1 159 19 = nI n) (hn : n ≤ 63) (hx : x < 2 ^ 20) (hy : y < 2 ^ 20) : ∀ (m : Nat) (i : Nat), i + m = n → Gs l b cy D (d + 0) yX11_isLess cX11_isLess (Option.some Jvm.ClassFile.FieldType.boolean) 6 (some (.int (bI (lessF (σ.1 168) x y n m i)))) σ 2 [(0, .ref (b + 159)), (1, .int (nI x)), (2, .int (nI y)), (3, .int (nI i))] [] σ := by
  intro m
  induction m with
  | zero =>
    intro i hi
    refine g_iload_n (pc' := 3) dX11_isLess_2 rfl 3 rfl rfl ?_
    refine g_aload_n (pc' := 4) dX11_isLess_3 rfl 0 rfl rfl ?_
    refine g_getI (pc' := 7) dX11_isLess_4 rfl (PLk.lf fX11_140) o159 rfl ?_
    refine g_icmp_ge (pc' := 10) (tgt := 66) dX11_isLess_7 rfl (by decide) (fun (c1 : (σ.1 159 19 : Int32) ≤ (nI i)) => ?_) (fun (c1 : ¬ (σ.1 159 19 : Int32) ≤ (nI i)) => ?_)
    · refine g_iconst (pc' := 67) (v := 0) dX11_isLess_66 rfl (by decide) ?_
      exact g_zret dX11_isLess_67 rfl (Or.inl rfl) ⟨rfl, rfl⟩ rfl
    · exact absurd (by rw [hc]; exact (nI_leI (by omega) (by omega)).mpr (by omega)) c1
  | succ m ih =>
    intro i hi
    refine g_iload_n (pc' := 3) dX11_isLess_2 rfl 3 rfl rfl ?_
    refine g_aload_n (pc' := 4) dX11_isLess_3 rfl 0 rfl rfl ?_
    refine g_getI (pc' := 7) dX11_isLess_4 rfl (PLk.lf fX11_140) o159 rfl ?_
    refine g_icmp_ge (pc' := 10) (tgt := 66) dX11_isLess_7 rfl (by decide) (fun (c1 : (σ.1 159 19 : Int32) ≤ (nI i)) => ?_) (fun (c1 : ¬ (σ.1 159 19 : Int32) ≤ (nI i)) => ?_)
    · exact absurd (nle (a := n) (c := i) c1 hc rfl (by omega) (by omega)) (by omega)
    · refine g_aload_n (pc' := 11) dX11_isLess_10 rfl 0 rfl rfl ?_
      refine g_getR (pc' := 14) (a := 168) dX11_isLess_11 rfl (PLk.lf fX11_39) o159 rfl ?_
      refine g_iload_n (pc' := 15) dX11_isLess_14 rfl 1 rfl rfl ?_
      refine g_iload_n (pc' := 16) dX11_isLess_15 rfl 3 rfl rfl ?_
      refine g_iadd (pc' := 17) dX11_isLess_16 rfl ?_
      refine g_aload_n (pc' := 18) dX11_isLess_17 rfl 0 rfl rfl ?_
      refine g_getI (pc' := 21) dX11_isLess_18 rfl (PLk.lf fX11_140) o159 rfl ?_
      refine g_irem (pc' := 22) dX11_isLess_21 rfl (by rw [hc]; exact nI_ne0 (by omega) (by omega)) ?_
      refine g_iald (pc' := 23) (j := ((x + i) % n)) dX11_isLess_22 rfl o168 (by decide) (by rw [hc]; exact remI (by omega) (by omega) (by omega)) (Nat.lt_of_lt_of_le (Nat.mod_lt _ (by omega)) (by omega)) ?_
      refine g_istore (pc' := 25) (j := 4) (lv' := [(4, .int (σ.1 168 ((x + i) % n))), (0, .ref (b + 159)), (1, .int (nI x)), (2, .int (nI y)), (3, .int (nI i))]) dX11_isLess_23 rfl (by decide) rfl ?_
      refine g_aload_n (pc' := 26) dX11_isLess_25 rfl 1 rfl rfl ?_
      refine g_getR (pc' := 29) (a := 168) dX11_isLess_26 rfl (PLk.lf fX11_39) o159 rfl ?_
      refine g_iload_n (pc' := 30) dX11_isLess_29 rfl 3 rfl rfl ?_
      refine g_iload_n (pc' := 31) dX11_isLess_30 rfl 4 rfl rfl ?_
      refine g_iadd (pc' := 32) dX11_isLess_31 rfl ?_
      refine g_aload_n (pc' := 33) dX11_isLess_32 rfl 1 rfl rfl ?_
      refine g_getI (pc' := 36) dX11_isLess_33 rfl (PLk.lf fX11_140) o159 rfl ?_
      refine g_irem (pc' := 37) dX11_isLess_36 rfl (by rw [hc]; exact nI_ne0 (by omega) (by omega)) ?_
      refine g_iald (pc' := 38) (j := ((y + i) % n)) dX11_isLess_37 rfl o168 (by decide) (by rw [hc]; exact remI (by omega) (by omega) (by omega)) (Nat.lt_of_lt_of_le (Nat.mod_lt _ (by omega)) (by omega)) ?_
      refine g_istore (pc' := 40) (j := 5) (lv' := [(5, .int (σ.1 168 ((y + i) % n))), (4, .int (σ.1 168 ((x + i) % n))), (0, .ref (b + 159)), (1, .int (nI x)), (2, .int (nI y)), (3, .int (nI i))]) dX11_isLess_38 rfl (by decide) rfl ?_
      refine g_iload (pc' := 42) dX11_isLess_40 rfl 1 rfl ?_
      refine g_iload (pc' := 44) dX11_isLess_42 rfl 0 rfl ?_
      refine g_icmp_eq (pc' := 47) (tgt := 60) dX11_isLess_44 rfl (by decide) (fun (c2 : (σ.1 168 ((x + i) % n) : Int32) = (σ.1 168 ((y + i) % n))) => ?_) (fun (c2 : ¬ (σ.1 168 ((x + i) % n) : Int32) = (σ.1 168 ((y + i) % n))) => ?_)
      · refine g_iinc (pc' := 63) (v := nI (i + 1)) (lv' := [(3, .int (nI (i + 1))), (5, .int (σ.1 168 ((y + i) % n))), (4, .int (σ.1 168 ((x + i) % n))), (0, .ref (b + 159)), (1, .int (nI x)), (2, .int (nI y))]) dX11_isLess_60 rfl 5 rfl (nI_1 i) (by decide) rfl ?_
        refine g_goto (tgt := 2) dX11_isLess_63 (by decide) ?_
        rw [show lessF (σ.1 168) x y n (m + 1) i = lessF (σ.1 168) x y n m (i + 1) by rw [lessF, if_pos c2]]
        refine g_sub [3, 4, 5, 0] rfl ?_
        exact ih (i + 1) (by omega)
      · refine g_iload (pc' := 49) dX11_isLess_47 rfl 1 rfl ?_
        refine g_iload (pc' := 51) dX11_isLess_49 rfl 0 rfl ?_
        refine g_icmp_ge (pc' := 54) (tgt := 58) dX11_isLess_51 rfl (by decide) (fun (c3 : (σ.1 168 ((y + i) % n) : Int32) ≤ (σ.1 168 ((x + i) % n))) => ?_) (fun (c3 : ¬ (σ.1 168 ((y + i) % n) : Int32) ≤ (σ.1 168 ((x + i) % n))) => ?_)
        · refine g_iconst (pc' := 59) (v := 0) dX11_isLess_58 rfl (by decide) ?_
          exact g_zret dX11_isLess_59 rfl (Or.inl rfl) ⟨rfl, rfl⟩ (by rw [lessF, if_neg c2, decide_eq_false (le_not_lt c3)]; rfl)
        · refine g_iconst (pc' := 55) (v := 1) dX11_isLess_54 rfl (by decide) ?_
          refine g_goto (tgt := 59) dX11_isLess_55 (by decide) ?_
          exact g_zret dX11_isLess_59 rfl (Or.inr rfl) ⟨rfl, rfl⟩ (by rw [lessF, if_neg c2, decide_eq_true (not_le_lt c3)]; rfl)
set_option maxRecDepth 100000 in
set_option maxHeartbeats 4000000 in
theorem ev_X11_isLess {l : Launch} {b : Nat} {cy : Nat → ClassId} {D : va_G} {d : Nat}  {x1 : Int32} {x2 : Int32} {n : Nat} {x : Nat} {y : Nat} {σ : Sg}  (hc : σ.1 159 19 = nI n) (hn : n ≤ 63) (q1 : x1 = nI x) (q2 : x2 = nI y) (hx : x < 2 ^ 20) (hy : y < 2 ^ 20) : Es l b cy D (d + 0) yX11_isLess cX11_isLess (Option.some Jvm.ClassFile.FieldType.boolean) 6 [.ref (b + 159), .int (x1), .int (x2)] σ (some (.int (bI (lessF (σ.1 168) x y n n 0)))) σ := by
  refine Ev.of (by decide) (Nat.le_of_ble_eq_true rfl) rfl ?_
  refine g_iconst (pc' := 1) (v := 0) dX11_isLess_0 rfl (by decide) ?_
  refine g_istore_n (pc' := 2) (j := 3) (lv' := [(3, .int (0)), (0, .ref (b + 159)), (1, .int (x1)), (2, .int (x2))]) dX11_isLess_1 rfl rfl (by decide) rfl ?_
  refine g_sub [1, 2, 3, 0] rfl ?_
  subst q1; subst q2
  exact lp_mless hc hn hx hy n 0 (by omega)
def likeF (f : Nat → Int32) (x n : Nat) : Nat → Nat → Bool → Bool
  | 0, _, q => q
  | m + 1, i, q => if q = true then likeF f x n m (i + 1) (decide (f ((x + i) % n) = f i)) else false
set_option maxRecDepth 100000 in
set_option maxHeartbeats 4000000 in
theorem lp_like {l : Launch} {b : Nat} {cy : Nat → ClassId} {D : va_G} {d : Nat}   {n x : Nat} {σ : Sg}  (hc : σ.1 159 19 = nI n) (hn : n ≤ 63) (hx : x < 2 ^ 20) : ∀ (m : Nat) (i : Nat) (q : Bool), i + m = n → Gs l b cy D (d + 0) yX11_isLike cX11_isLike (Option.some Jvm.ClassFile.FieldType.boolean) 4 (some (.int (bI (likeF (σ.1 168) x n m i q)))) σ 4 [(0, .ref (b + 159)), (1, .int (nI x)), (2, .int (bI (q))), (3, .int (nI i))] [] σ := by
  intro m
  induction m with
  | zero =>
    intro i q hi
    refine g_iload_n (pc' := 5) dX11_isLike_4 rfl 3 rfl rfl ?_
    refine g_aload_n (pc' := 6) dX11_isLike_5 rfl 0 rfl rfl ?_
    refine g_getI (pc' := 9) dX11_isLike_6 rfl (PLk.lf fX11_140) o159 rfl ?_
    refine g_icmp_ge (pc' := 12) (tgt := 50) dX11_isLike_9 rfl (by decide) (fun (c1 : (σ.1 159 19 : Int32) ≤ (nI i)) => ?_) (fun (c1 : ¬ (σ.1 159 19 : Int32) ≤ (nI i)) => ?_)
    · refine g_iload_n (pc' := 51) dX11_isLike_50 rfl 2 rfl rfl ?_
      exact g_zret dX11_isLike_51 rfl (bI_01 _) ⟨rfl, rfl⟩ rfl
    · exact absurd (by rw [hc]; exact (nI_leI (by omega) (by omega)).mpr (by omega)) c1
  | succ m ih =>
    intro i q hi
    refine g_iload_n (pc' := 5) dX11_isLike_4 rfl 3 rfl rfl ?_
    refine g_aload_n (pc' := 6) dX11_isLike_5 rfl 0 rfl rfl ?_
    refine g_getI (pc' := 9) dX11_isLike_6 rfl (PLk.lf fX11_140) o159 rfl ?_
    refine g_icmp_ge (pc' := 12) (tgt := 50) dX11_isLike_9 rfl (by decide) (fun (c1 : (σ.1 159 19 : Int32) ≤ (nI i)) => ?_) (fun (c1 : ¬ (σ.1 159 19 : Int32) ≤ (nI i)) => ?_)
    · exact absurd (nle (a := n) (c := i) c1 hc rfl (by omega) (by omega)) (by omega)
    · refine g_iload_n (pc' := 13) dX11_isLike_12 rfl 2 rfl rfl ?_
      refine g_ifb_eq (pc' := 16) (tgt := 50) dX11_isLike_13 rfl (by decide) (fun (c2 : q = false) => ?_) (fun (c2 : q = true) => ?_)
      · refine g_iload_n (pc' := 51) dX11_isLike_50 rfl 2 rfl rfl ?_
        exact g_zret dX11_isLike_51 rfl (bI_01 _) ⟨rfl, rfl⟩ (by rw [likeF, if_neg (bf c2), c2])
      · refine g_aload_n (pc' := 17) dX11_isLike_16 rfl 0 rfl rfl ?_
        refine g_getR (pc' := 20) (a := 168) dX11_isLike_17 rfl (PLk.lf fX11_39) o159 rfl ?_
        refine g_iload_n (pc' := 21) dX11_isLike_20 rfl 1 rfl rfl ?_
        refine g_iload_n (pc' := 22) dX11_isLike_21 rfl 3 rfl rfl ?_
        refine g_iadd (pc' := 23) dX11_isLike_22 rfl ?_
        refine g_aload_n (pc' := 24) dX11_isLike_23 rfl 0 rfl rfl ?_
        refine g_getI (pc' := 27) dX11_isLike_24 rfl (PLk.lf fX11_140) o159 rfl ?_
        refine g_irem (pc' := 28) dX11_isLike_27 rfl (by rw [hc]; exact nI_ne0 (by omega) (by omega)) ?_
        refine g_iald (pc' := 29) (j := ((x + i) % n)) dX11_isLike_28 rfl o168 (by decide) (by rw [hc]; exact remI (by omega) (by omega) (by omega)) (Nat.lt_of_lt_of_le (Nat.mod_lt _ (by omega)) (by omega)) ?_
        refine g_aload_n (pc' := 30) dX11_isLike_29 rfl 0 rfl rfl ?_
        refine g_getR (pc' := 33) (a := 168) dX11_isLike_30 rfl (PLk.lf fX11_39) o159 rfl ?_
        refine g_iload_n (pc' := 34) dX11_isLike_33 rfl 3 rfl rfl ?_
        refine g_iald (pc' := 35) (j := i) dX11_isLike_34 rfl o168 (by decide) rfl (by omega) ?_
        refine g_icmp_ne (pc' := 38) (tgt := 42) dX11_isLike_35 rfl (by decide) (fun (c3 : ¬ (σ.1 168 ((x + i) % n) : Int32) = (σ.1 168 i)) => ?_) (fun (c3 : (σ.1 168 ((x + i) % n) : Int32) = (σ.1 168 i)) => ?_)
        · refine g_iconst (pc' := 43) (v := 0) dX11_isLike_42 rfl (by decide) ?_
          refine g_istore_n (pc' := 44) (j := 2) (lv' := [(2, .int (0)), (0, .ref (b + 159)), (1, .int (nI x)), (3, .int (nI i))]) dX11_isLike_43 rfl rfl (by decide) rfl ?_
          refine g_iinc (pc' := 47) (v := nI (i + 1)) (lv' := [(3, .int (nI (i + 1))), (2, .int (0)), (0, .ref (b + 159)), (1, .int (nI x))]) dX11_isLike_44 rfl 3 rfl (nI_1 i) (by decide) rfl ?_
          refine g_goto (tgt := 4) dX11_isLike_47 (by decide) ?_
          rw [show likeF (σ.1 168) x n (m + 1) i q = likeF (σ.1 168) x n m (i + 1) false by rw [likeF, if_pos c2, decide_eq_false c3]]
          refine g_sub [2, 3, 1, 0] rfl ?_
          exact ih (i + 1) false (by omega)
        · refine g_iconst (pc' := 39) (v := 1) dX11_isLike_38 rfl (by decide) ?_
          refine g_goto (tgt := 43) dX11_isLike_39 (by decide) ?_
          refine g_istore_n (pc' := 44) (j := 2) (lv' := [(2, .int (1)), (0, .ref (b + 159)), (1, .int (nI x)), (3, .int (nI i))]) dX11_isLike_43 rfl rfl (by decide) rfl ?_
          refine g_iinc (pc' := 47) (v := nI (i + 1)) (lv' := [(3, .int (nI (i + 1))), (2, .int (1)), (0, .ref (b + 159)), (1, .int (nI x))]) dX11_isLike_44 rfl 3 rfl (nI_1 i) (by decide) rfl ?_
          refine g_goto (tgt := 4) dX11_isLike_47 (by decide) ?_
          rw [show likeF (σ.1 168) x n (m + 1) i q = likeF (σ.1 168) x n m (i + 1) true by rw [likeF, if_pos c2, decide_eq_true c3]]
          refine g_sub [2, 3, 1, 0] rfl ?_
          exact ih (i + 1) true (by omega)
set_option maxRecDepth 100000 in
set_option maxHeartbeats 4000000 in
theorem ev_X11_isLike {l : Launch} {b : Nat} {cy : Nat → ClassId} {D : va_G} {d : Nat}  {x1 : Int32} {n : Nat} {x : Nat} {σ : Sg}  (hc : σ.1 159 19 = nI n) (hn : n ≤ 63) (q1 : x1 = nI x) (hx : x < 2 ^ 20) : Es l b cy D (d + 0) yX11_isLike cX11_isLike (Option.some Jvm.ClassFile.FieldType.boolean) 4 [.ref (b + 159), .int (x1)] σ (some (.int (bI (likeF (σ.1 168) x n n 0 true)))) σ := by
  refine Ev.of (by decide) (Nat.le_of_ble_eq_true rfl) rfl ?_
  refine g_iconst (pc' := 1) (v := 1) dX11_isLike_0 rfl (by decide) ?_
  refine g_istore_n (pc' := 2) (j := 2) (lv' := [(2, .int (1)), (0, .ref (b + 159)), (1, .int (x1))]) dX11_isLike_1 rfl rfl (by decide) rfl ?_
  refine g_iconst (pc' := 3) (v := 0) dX11_isLike_2 rfl (by decide) ?_
  refine g_istore_n (pc' := 4) (j := 3) (lv' := [(3, .int (0)), (2, .int (1)), (0, .ref (b + 159)), (1, .int (x1))]) dX11_isLike_3 rfl rfl (by decide) rfl ?_
  refine g_sub [2, 3, 1, 0] rfl ?_
  subst q1
  exact lp_like hc hn hx n 0 true (by omega)
def paF : Nat → Nat → Sg → Sg
  | 0, _, σ => σ
  | m + 1, k, σ => paF m (k + 1) (u2 σ.1 169 k (σ.1 166 k), σ.2)
set_option maxRecDepth 100000 in
set_option maxHeartbeats 4000000 in
theorem lp_pa {l : Launch} {b : Nat} {cy : Nat → ClassId} {D : va_G} {d : Nat}   {n : Nat}   (hn : n ≤ 63) : ∀ (m : Nat) (k : Nat) (σ : Sg), k + m = n → σ.1 159 19 = nI n → Gs l b cy D (d + 0) yX11_putsAside cX11_putsAside (Option.none : Option Jvm.ClassFile.FieldType) 2 none (paF m k σ) 50 [(0, .ref (b + 159)), (1, .int (nI k))] [] σ := by
  intro m
  induction m with
  | zero =>
    intro k σ hk hc
    refine g_iload_n (pc' := 51) dX11_putsAside_50 rfl 1 rfl rfl ?_
    refine g_aload_n (pc' := 52) dX11_putsAside_51 rfl 0 rfl rfl ?_
    refine g_getI (pc' := 55) dX11_putsAside_52 rfl (PLk.lf fX11_140) o159 rfl ?_
    refine g_icmp_ge (pc' := 58) (tgt := 76) dX11_putsAside_55 rfl (by decide) (fun (c1 : (σ.1 159 19 : Int32) ≤ (nI k)) => ?_) (fun (c1 : ¬ (σ.1 159 19 : Int32) ≤ (nI k)) => ?_)
    · exact g_vret dX11_putsAside_76 rfl ⟨rfl, rfl⟩ rfl
    · exact absurd (by rw [hc]; exact (nI_leI (by omega) (by omega)).mpr (by omega)) c1
  | succ m ih =>
    intro k σ hk hc
    refine g_iload_n (pc' := 51) dX11_putsAside_50 rfl 1 rfl rfl ?_
    refine g_aload_n (pc' := 52) dX11_putsAside_51 rfl 0 rfl rfl ?_
    refine g_getI (pc' := 55) dX11_putsAside_52 rfl (PLk.lf fX11_140) o159 rfl ?_
    refine g_icmp_ge (pc' := 58) (tgt := 76) dX11_putsAside_55 rfl (by decide) (fun (c1 : (σ.1 159 19 : Int32) ≤ (nI k)) => ?_) (fun (c1 : ¬ (σ.1 159 19 : Int32) ≤ (nI k)) => ?_)
    · exact absurd (nle (a := n) (c := k) c1 hc rfl (by omega) (by omega)) (by omega)
    · refine g_aload_n (pc' := 59) dX11_putsAside_58 rfl 0 rfl rfl ?_
      refine g_getR (pc' := 62) (a := 169) dX11_putsAside_59 rfl (PLk.lf fX11_42) o159 rfl ?_
      refine g_iload_n (pc' := 63) dX11_putsAside_62 rfl 1 rfl rfl ?_
      refine g_aload_n (pc' := 64) dX11_putsAside_63 rfl 0 rfl rfl ?_
      refine g_getR (pc' := 67) (a := 166) dX11_putsAside_64 rfl (PLk.lf fX11_33) o159 rfl ?_
      refine g_iload_n (pc' := 68) dX11_putsAside_67 rfl 1 rfl rfl ?_
      refine g_iald (pc' := 69) (j := k) dX11_putsAside_68 rfl o166 (by decide) rfl (by omega) ?_
      refine g_iast (pc' := 70) (j := k) dX11_putsAside_69 rfl (by decide) o169 (by decide) rfl (by omega) ?_
      refine g_iinc (pc' := 73) (v := nI (k + 1)) (lv' := [(1, .int (nI (k + 1))), (0, .ref (b + 159))]) dX11_putsAside_70 rfl 1 rfl (nI_1 k) (by decide) rfl ?_
      refine g_goto (tgt := 50) dX11_putsAside_73 (by decide) ?_
      refine g_sub [1, 0] rfl ?_
      exact ih (k + 1) _ (by omega) (by dsimp only; rw [u2_k (by decide)]; exact hc)
def pa0 (σ : Sg) : Sg := (u2 (u2 (u2 σ.1 159 26 (σ.1 159 15)) 159 29 ((u2 σ.1 159 26 (σ.1 159 15)) 159 25)) 159 30 ((u2 (u2 σ.1 159 26 (σ.1 159 15)) 159 29 ((u2 σ.1 159 26 (σ.1 159 15)) 159 25)) 159 19), u2 (u2 (u2 σ.2 159 27 (σ.2 159 16)) 159 28 ((u2 σ.2 159 27 (σ.2 159 16)) 159 17)) 159 31 ((u2 (u2 σ.2 159 27 (σ.2 159 16)) 159 28 ((u2 σ.2 159 27 (σ.2 159 16)) 159 17)) 159 22))
set_option maxRecDepth 100000 in
set_option maxHeartbeats 4000000 in
theorem ev_X11_putsAside {l : Launch} {b : Nat} {cy : Nat → ClassId} {D : va_G} {d : Nat}   {n : Nat} {σ : Sg}  (hc : σ.1 159 19 = nI n) (hn : n ≤ 63) : Es l b cy D (d + 0) yX11_putsAside cX11_putsAside (Option.none : Option Jvm.ClassFile.FieldType) 2 [.ref (b + 159)] σ none (paF n 0 (pa0 σ)) := by
  refine Ev.of (by decide) (Nat.le_of_ble_eq_true rfl) rfl ?_
  refine g_aload_n (pc' := 1) dX11_putsAside_0 rfl 0 rfl rfl ?_
  refine g_aload_n (pc' := 2) dX11_putsAside_1 rfl 0 rfl rfl ?_
  refine g_getI (pc' := 5) dX11_putsAside_2 rfl (PLk.lf fX11_168) o159 rfl ?_
  refine g_putI (pc' := 8) dX11_putsAside_5 rfl fX11_189 o159 rfl ?_
  refine g_aload_n (pc' := 9) dX11_putsAside_8 rfl 0 rfl rfl ?_
  refine g_aload_n (pc' := 10) dX11_putsAside_9 rfl 0 rfl rfl ?_
  refine g_getL (pc' := 13) dX11_putsAside_10 rfl (PLk.lf fX11_126) o159 rfl ?_
  refine g_putL (pc' := 16) dX11_putsAside_13 rfl fX11_192 o159 rfl ?_
  refine g_aload_n (pc' := 17) dX11_putsAside_16 rfl 0 rfl rfl ?_
  refine g_aload_n (pc' := 18) dX11_putsAside_17 rfl 0 rfl rfl ?_
  refine g_getL (pc' := 21) dX11_putsAside_18 rfl (PLk.lf fX11_160) o159 rfl ?_
  refine g_putL (pc' := 24) dX11_putsAside_21 rfl fX11_195 o159 rfl ?_
  refine g_aload_n (pc' := 25) dX11_putsAside_24 rfl 0 rfl rfl ?_
  refine g_aload_n (pc' := 26) dX11_putsAside_25 rfl 0 rfl rfl ?_
  refine g_getI (pc' := 29) dX11_putsAside_26 rfl (PLk.lf fX11_171) o159 rfl ?_
  refine g_putI (pc' := 32) dX11_putsAside_29 rfl fX11_198 o159 rfl ?_
  refine g_aload_n (pc' := 33) dX11_putsAside_32 rfl 0 rfl rfl ?_
  refine g_aload_n (pc' := 34) dX11_putsAside_33 rfl 0 rfl rfl ?_
  refine g_getI (pc' := 37) dX11_putsAside_34 rfl (PLk.lf fX11_140) o159 rfl ?_
  refine g_putI (pc' := 40) dX11_putsAside_37 rfl fX11_201 o159 rfl ?_
  refine g_aload_n (pc' := 41) dX11_putsAside_40 rfl 0 rfl rfl ?_
  refine g_aload_n (pc' := 42) dX11_putsAside_41 rfl 0 rfl rfl ?_
  refine g_getL (pc' := 45) dX11_putsAside_42 rfl (PLk.lf fX11_157) o159 rfl ?_
  refine g_putL (pc' := 48) dX11_putsAside_45 rfl fX11_204 o159 rfl ?_
  refine g_iconst (pc' := 49) (v := 0) dX11_putsAside_48 rfl (by decide) ?_
  refine g_istore_n (pc' := 50) (j := 1) (lv' := [(1, .int (0)), (0, .ref (b + 159))]) dX11_putsAside_49 rfl rfl (by decide) rfl ?_
  refine g_sub [1, 0] rfl ?_
  exact lp_pa hn n 0 (pa0 σ) (by omega) (by unfold pa0; dsimp only; rw [u2_j (by decide), u2_j (by decide), u2_j (by decide)]; exact hc)
def ialF (f g : Nat → Int32) : Nat → Nat → Bool → Bool
  | 0, _, q => q
  | m + 1, i, q => if q = true then ialF f g m (i + 1) (decide (f i = g i)) else false
set_option maxRecDepth 100000 in
set_option maxHeartbeats 4000000 in
theorem lp_ial {l : Launch} {b : Nat} {cy : Nat → ClassId} {D : va_G} {d : Nat}   {n : Nat} {σ : Sg}  (hc : σ.1 159 19 = nI n) (hn : n ≤ 63) : ∀ (m : Nat) (i : Nat) (q : Bool), i + m = n → Gs l b cy D (d + 0) yX11_isAlike cX11_isAlike (Option.some Jvm.ClassFile.FieldType.boolean) 3 (some (.int (bI (ialF (σ.1 166) (σ.1 169) m i q)))) σ 73 [(0, .ref (b + 159)), (1, .int (bI (q))), (2, .int (nI i))] [] σ := by
  intro m
  induction m with
  | zero =>
    intro i q hi
    refine g_iload_n (pc' := 74) dX11_isAlike_73 rfl 2 rfl rfl ?_
    refine g_aload_n (pc' := 75) dX11_isAlike_74 rfl 0 rfl rfl ?_
    refine g_getI (pc' := 78) dX11_isAlike_75 rfl (PLk.lf fX11_140) o159 rfl ?_
    refine g_icmp_ge (pc' := 81) (tgt := 112) dX11_isAlike_78 rfl (by decide) (fun (c1 : (σ.1 159 19 : Int32) ≤ (nI i)) => ?_) (fun (c1 : ¬ (σ.1 159 19 : Int32) ≤ (nI i)) => ?_)
    · refine g_iload_n (pc' := 113) dX11_isAlike_112 rfl 1 rfl rfl ?_
      exact g_zret dX11_isAlike_113 rfl (bI_01 _) ⟨rfl, rfl⟩ rfl
    · exact absurd (by rw [hc]; exact (nI_leI (by omega) (by omega)).mpr (by omega)) c1
  | succ m ih =>
    intro i q hi
    refine g_iload_n (pc' := 74) dX11_isAlike_73 rfl 2 rfl rfl ?_
    refine g_aload_n (pc' := 75) dX11_isAlike_74 rfl 0 rfl rfl ?_
    refine g_getI (pc' := 78) dX11_isAlike_75 rfl (PLk.lf fX11_140) o159 rfl ?_
    refine g_icmp_ge (pc' := 81) (tgt := 112) dX11_isAlike_78 rfl (by decide) (fun (c1 : (σ.1 159 19 : Int32) ≤ (nI i)) => ?_) (fun (c1 : ¬ (σ.1 159 19 : Int32) ≤ (nI i)) => ?_)
    · exact absurd (nle (a := n) (c := i) c1 hc rfl (by omega) (by omega)) (by omega)
    · refine g_iload_n (pc' := 82) dX11_isAlike_81 rfl 1 rfl rfl ?_
      refine g_ifb_eq (pc' := 85) (tgt := 112) dX11_isAlike_82 rfl (by decide) (fun (c2 : q = false) => ?_) (fun (c2 : q = true) => ?_)
      · refine g_iload_n (pc' := 113) dX11_isAlike_112 rfl 1 rfl rfl ?_
        exact g_zret dX11_isAlike_113 rfl (bI_01 _) ⟨rfl, rfl⟩ (by rw [ialF, if_neg (bf c2), c2])
      · refine g_aload_n (pc' := 86) dX11_isAlike_85 rfl 0 rfl rfl ?_
        refine g_getR (pc' := 89) (a := 166) dX11_isAlike_86 rfl (PLk.lf fX11_33) o159 rfl ?_
        refine g_iload_n (pc' := 90) dX11_isAlike_89 rfl 2 rfl rfl ?_
        refine g_iald (pc' := 91) (j := i) dX11_isAlike_90 rfl o166 (by decide) rfl (by omega) ?_
        refine g_aload_n (pc' := 92) dX11_isAlike_91 rfl 0 rfl rfl ?_
        refine g_getR (pc' := 95) (a := 169) dX11_isAlike_92 rfl (PLk.lf fX11_42) o159 rfl ?_
        refine g_iload_n (pc' := 96) dX11_isAlike_95 rfl 2 rfl rfl ?_
        refine g_iald (pc' := 97) (j := i) dX11_isAlike_96 rfl o169 (by decide) rfl (by omega) ?_
        refine g_icmp_ne (pc' := 100) (tgt := 104) dX11_isAlike_97 rfl (by decide) (fun (c3 : ¬ (σ.1 166 i : Int32) = (σ.1 169 i)) => ?_) (fun (c3 : (σ.1 166 i : Int32) = (σ.1 169 i)) => ?_)
        · refine g_iconst (pc' := 105) (v := 0) dX11_isAlike_104 rfl (by decide) ?_
          refine g_istore_n (pc' := 106) (j := 1) (lv' := [(1, .int (0)), (0, .ref (b + 159)), (2, .int (nI i))]) dX11_isAlike_105 rfl rfl (by decide) rfl ?_
          refine g_iinc (pc' := 109) (v := nI (i + 1)) (lv' := [(2, .int (nI (i + 1))), (1, .int (0)), (0, .ref (b + 159))]) dX11_isAlike_106 rfl 2 rfl (nI_1 i) (by decide) rfl ?_
          refine g_goto (tgt := 73) dX11_isAlike_109 (by decide) ?_
          rw [show ialF (σ.1 166) (σ.1 169) (m + 1) i q = ialF (σ.1 166) (σ.1 169) m (i + 1) false by rw [ialF, if_pos c2, decide_eq_false c3]]
          refine g_sub [2, 1, 0] rfl ?_
          exact ih (i + 1) false (by omega)
        · refine g_iconst (pc' := 101) (v := 1) dX11_isAlike_100 rfl (by decide) ?_
          refine g_goto (tgt := 105) dX11_isAlike_101 (by decide) ?_
          refine g_istore_n (pc' := 106) (j := 1) (lv' := [(1, .int (1)), (0, .ref (b + 159)), (2, .int (nI i))]) dX11_isAlike_105 rfl rfl (by decide) rfl ?_
          refine g_iinc (pc' := 109) (v := nI (i + 1)) (lv' := [(2, .int (nI (i + 1))), (1, .int (1)), (0, .ref (b + 159))]) dX11_isAlike_106 rfl 2 rfl (nI_1 i) (by decide) rfl ?_
          refine g_goto (tgt := 73) dX11_isAlike_109 (by decide) ?_
          rw [show ialF (σ.1 166) (σ.1 169) (m + 1) i q = ialF (σ.1 166) (σ.1 169) m (i + 1) true by rw [ialF, if_pos c2, decide_eq_true c3]]
          refine g_sub [2, 1, 0] rfl ?_
          exact ih (i + 1) true (by omega)
def ial0 (σ : Sg) : Bool := if (σ.1 159 15 : Int32) = (σ.1 159 26) then if (σ.2 159 16 : Int64) = (σ.2 159 27) then if (σ.1 159 15 : Int32) = 1 then if (σ.1 159 25 : Int32) = (σ.1 159 29) then if (σ.2 159 17 : Int64) = (σ.2 159 28) then if (σ.1 159 19 : Int32) = (σ.1 159 30) then true else false else false else false else if (σ.2 159 17 : Int64) = (σ.2 159 28) then if (σ.1 159 19 : Int32) = (σ.1 159 30) then true else false else false else false else false
set_option maxRecDepth 100000 in
set_option maxHeartbeats 4000000 in
theorem ev_X11_isAlike {l : Launch} {b : Nat} {cy : Nat → ClassId} {D : va_G} {d : Nat}   {n : Nat} {σ : Sg}  (hc : σ.1 159 19 = nI n) (hn : n ≤ 63) : Es l b cy D (d + 0) yX11_isAlike cX11_isAlike (Option.some Jvm.ClassFile.FieldType.boolean) 3 [.ref (b + 159)] σ (some (.int (bI (ialF (σ.1 166) (σ.1 169) n 0 (ial0 σ))))) σ := by
  refine Ev.of (by decide) (Nat.le_of_ble_eq_true rfl) rfl ?_
  refine g_aload_n (pc' := 1) dX11_isAlike_0 rfl 0 rfl rfl ?_
  refine g_getI (pc' := 4) dX11_isAlike_1 rfl (PLk.lf fX11_168) o159 rfl ?_
  refine g_aload_n (pc' := 5) dX11_isAlike_4 rfl 0 rfl rfl ?_
  refine g_getI (pc' := 8) dX11_isAlike_5 rfl (PLk.lf fX11_189) o159 rfl ?_
  refine g_icmp_ne (pc' := 11) (tgt := 69) dX11_isAlike_8 rfl (by decide) (fun (c1 : ¬ (σ.1 159 15 : Int32) = (σ.1 159 26)) => ?_) (fun (c1 : (σ.1 159 15 : Int32) = (σ.1 159 26)) => ?_)
  · refine g_iconst (pc' := 70) (v := 0) dX11_isAlike_69 rfl (by decide) ?_
    refine g_istore_n (pc' := 71) (j := 1) (lv' := [(1, .int (0)), (0, .ref (b + 159))]) dX11_isAlike_70 rfl rfl (by decide) rfl ?_
    refine g_iconst (pc' := 72) (v := 0) dX11_isAlike_71 rfl (by decide) ?_
    refine g_istore_n (pc' := 73) (j := 2) (lv' := [(2, .int (0)), (1, .int (0)), (0, .ref (b + 159))]) dX11_isAlike_72 rfl rfl (by decide) rfl ?_
    rw [show ial0 σ = false by unfold ial0; rw [if_neg c1]]
    refine g_sub [2, 1, 0] rfl ?_
    exact lp_ial hc hn n 0 false (by omega)
  · refine g_aload_n (pc' := 12) dX11_isAlike_11 rfl 0 rfl rfl ?_
    refine g_getL (pc' := 15) dX11_isAlike_12 rfl (PLk.lf fX11_126) o159 rfl ?_
    refine g_aload_n (pc' := 16) dX11_isAlike_15 rfl 0 rfl rfl ?_
    refine g_getL (pc' := 19) dX11_isAlike_16 rfl (PLk.lf fX11_192) o159 rfl ?_
    refine g_lif_ne (pc' := 23) (tgt := 69) dX11_isAlike_19 dX11_isAlike_20 rfl (by decide) (fun (c2 : ¬ (σ.2 159 16 : Int64) = (σ.2 159 27)) => ?_) (fun (c2 : (σ.2 159 16 : Int64) = (σ.2 159 27)) => ?_)
    · refine g_iconst (pc' := 70) (v := 0) dX11_isAlike_69 rfl (by decide) ?_
      refine g_istore_n (pc' := 71) (j := 1) (lv' := [(1, .int (0)), (0, .ref (b + 159))]) dX11_isAlike_70 rfl rfl (by decide) rfl ?_
      refine g_iconst (pc' := 72) (v := 0) dX11_isAlike_71 rfl (by decide) ?_
      refine g_istore_n (pc' := 73) (j := 2) (lv' := [(2, .int (0)), (1, .int (0)), (0, .ref (b + 159))]) dX11_isAlike_72 rfl rfl (by decide) rfl ?_
      rw [show ial0 σ = false by unfold ial0; rw [if_pos c1, if_neg c2]]
      refine g_sub [2, 1, 0] rfl ?_
      exact lp_ial hc hn n 0 false (by omega)
    · refine g_aload_n (pc' := 24) dX11_isAlike_23 rfl 0 rfl rfl ?_
      refine g_getI (pc' := 27) dX11_isAlike_24 rfl (PLk.lf fX11_168) o159 rfl ?_
      refine g_iconst (pc' := 28) (v := 1) dX11_isAlike_27 rfl (by decide) ?_
      refine g_icmp_ne (pc' := 31) (tgt := 42) dX11_isAlike_28 rfl (by decide) (fun (c3 : ¬ (σ.1 159 15 : Int32) = 1) => ?_) (fun (c3 : (σ.1 159 15 : Int32) = 1) => ?_)
      · refine g_aload_n (pc' := 43) dX11_isAlike_42 rfl 0 rfl rfl ?_
        refine g_getL (pc' := 46) dX11_isAlike_43 rfl (PLk.lf fX11_160) o159 rfl ?_
        refine g_aload_n (pc' := 47) dX11_isAlike_46 rfl 0 rfl rfl ?_
        refine g_getL (pc' := 50) dX11_isAlike_47 rfl (PLk.lf fX11_195) o159 rfl ?_
        refine g_lif_ne (pc' := 54) (tgt := 69) dX11_isAlike_50 dX11_isAlike_51 rfl (by decide) (fun (c4 : ¬ (σ.2 159 17 : Int64) = (σ.2 159 28)) => ?_) (fun (c4 : (σ.2 159 17 : Int64) = (σ.2 159 28)) => ?_)
        · refine g_iconst (pc' := 70) (v := 0) dX11_isAlike_69 rfl (by decide) ?_
          refine g_istore_n (pc' := 71) (j := 1) (lv' := [(1, .int (0)), (0, .ref (b + 159))]) dX11_isAlike_70 rfl rfl (by decide) rfl ?_
          refine g_iconst (pc' := 72) (v := 0) dX11_isAlike_71 rfl (by decide) ?_
          refine g_istore_n (pc' := 73) (j := 2) (lv' := [(2, .int (0)), (1, .int (0)), (0, .ref (b + 159))]) dX11_isAlike_72 rfl rfl (by decide) rfl ?_
          rw [show ial0 σ = false by unfold ial0; rw [if_pos c1, if_pos c2, if_neg c3, if_neg c4]]
          refine g_sub [2, 1, 0] rfl ?_
          exact lp_ial hc hn n 0 false (by omega)
        · refine g_aload_n (pc' := 55) dX11_isAlike_54 rfl 0 rfl rfl ?_
          refine g_getI (pc' := 58) dX11_isAlike_55 rfl (PLk.lf fX11_140) o159 rfl ?_
          refine g_aload_n (pc' := 59) dX11_isAlike_58 rfl 0 rfl rfl ?_
          refine g_getI (pc' := 62) dX11_isAlike_59 rfl (PLk.lf fX11_201) o159 rfl ?_
          refine g_icmp_ne (pc' := 65) (tgt := 69) dX11_isAlike_62 rfl (by decide) (fun (c5 : ¬ (σ.1 159 19 : Int32) = (σ.1 159 30)) => ?_) (fun (c5 : (σ.1 159 19 : Int32) = (σ.1 159 30)) => ?_)
          · refine g_iconst (pc' := 70) (v := 0) dX11_isAlike_69 rfl (by decide) ?_
            refine g_istore_n (pc' := 71) (j := 1) (lv' := [(1, .int (0)), (0, .ref (b + 159))]) dX11_isAlike_70 rfl rfl (by decide) rfl ?_
            refine g_iconst (pc' := 72) (v := 0) dX11_isAlike_71 rfl (by decide) ?_
            refine g_istore_n (pc' := 73) (j := 2) (lv' := [(2, .int (0)), (1, .int (0)), (0, .ref (b + 159))]) dX11_isAlike_72 rfl rfl (by decide) rfl ?_
            rw [show ial0 σ = false by unfold ial0; rw [if_pos c1, if_pos c2, if_neg c3, if_pos c4, if_neg c5]]
            refine g_sub [2, 1, 0] rfl ?_
            exact lp_ial hc hn n 0 false (by omega)
          · refine g_iconst (pc' := 66) (v := 1) dX11_isAlike_65 rfl (by decide) ?_
            refine g_goto (tgt := 70) dX11_isAlike_66 (by decide) ?_
            refine g_istore_n (pc' := 71) (j := 1) (lv' := [(1, .int (1)), (0, .ref (b + 159))]) dX11_isAlike_70 rfl rfl (by decide) rfl ?_
            refine g_iconst (pc' := 72) (v := 0) dX11_isAlike_71 rfl (by decide) ?_
            refine g_istore_n (pc' := 73) (j := 2) (lv' := [(2, .int (0)), (1, .int (1)), (0, .ref (b + 159))]) dX11_isAlike_72 rfl rfl (by decide) rfl ?_
            rw [show ial0 σ = true by unfold ial0; rw [if_pos c1, if_pos c2, if_neg c3, if_pos c4, if_pos c5]]
            refine g_sub [2, 1, 0] rfl ?_
            exact lp_ial hc hn n 0 true (by omega)
      · refine g_aload_n (pc' := 32) dX11_isAlike_31 rfl 0 rfl rfl ?_
        refine g_getI (pc' := 35) dX11_isAlike_32 rfl (PLk.lf fX11_171) o159 rfl ?_
        refine g_aload_n (pc' := 36) dX11_isAlike_35 rfl 0 rfl rfl ?_
        refine g_getI (pc' := 39) dX11_isAlike_36 rfl (PLk.lf fX11_198) o159 rfl ?_
        refine g_icmp_ne (pc' := 42) (tgt := 69) dX11_isAlike_39 rfl (by decide) (fun (c6 : ¬ (σ.1 159 25 : Int32) = (σ.1 159 29)) => ?_) (fun (c6 : (σ.1 159 25 : Int32) = (σ.1 159 29)) => ?_)
        · refine g_iconst (pc' := 70) (v := 0) dX11_isAlike_69 rfl (by decide) ?_
          refine g_istore_n (pc' := 71) (j := 1) (lv' := [(1, .int (0)), (0, .ref (b + 159))]) dX11_isAlike_70 rfl rfl (by decide) rfl ?_
          refine g_iconst (pc' := 72) (v := 0) dX11_isAlike_71 rfl (by decide) ?_
          refine g_istore_n (pc' := 73) (j := 2) (lv' := [(2, .int (0)), (1, .int (0)), (0, .ref (b + 159))]) dX11_isAlike_72 rfl rfl (by decide) rfl ?_
          rw [show ial0 σ = false by unfold ial0; rw [if_pos c1, if_pos c2, if_pos c3, if_neg c6]]
          refine g_sub [2, 1, 0] rfl ?_
          exact lp_ial hc hn n 0 false (by omega)
        · refine g_aload_n (pc' := 43) dX11_isAlike_42 rfl 0 rfl rfl ?_
          refine g_getL (pc' := 46) dX11_isAlike_43 rfl (PLk.lf fX11_160) o159 rfl ?_
          refine g_aload_n (pc' := 47) dX11_isAlike_46 rfl 0 rfl rfl ?_
          refine g_getL (pc' := 50) dX11_isAlike_47 rfl (PLk.lf fX11_195) o159 rfl ?_
          refine g_lif_ne (pc' := 54) (tgt := 69) dX11_isAlike_50 dX11_isAlike_51 rfl (by decide) (fun (c7 : ¬ (σ.2 159 17 : Int64) = (σ.2 159 28)) => ?_) (fun (c7 : (σ.2 159 17 : Int64) = (σ.2 159 28)) => ?_)
          · refine g_iconst (pc' := 70) (v := 0) dX11_isAlike_69 rfl (by decide) ?_
            refine g_istore_n (pc' := 71) (j := 1) (lv' := [(1, .int (0)), (0, .ref (b + 159))]) dX11_isAlike_70 rfl rfl (by decide) rfl ?_
            refine g_iconst (pc' := 72) (v := 0) dX11_isAlike_71 rfl (by decide) ?_
            refine g_istore_n (pc' := 73) (j := 2) (lv' := [(2, .int (0)), (1, .int (0)), (0, .ref (b + 159))]) dX11_isAlike_72 rfl rfl (by decide) rfl ?_
            rw [show ial0 σ = false by unfold ial0; rw [if_pos c1, if_pos c2, if_pos c3, if_pos c6, if_neg c7]]
            refine g_sub [2, 1, 0] rfl ?_
            exact lp_ial hc hn n 0 false (by omega)
          · refine g_aload_n (pc' := 55) dX11_isAlike_54 rfl 0 rfl rfl ?_
            refine g_getI (pc' := 58) dX11_isAlike_55 rfl (PLk.lf fX11_140) o159 rfl ?_
            refine g_aload_n (pc' := 59) dX11_isAlike_58 rfl 0 rfl rfl ?_
            refine g_getI (pc' := 62) dX11_isAlike_59 rfl (PLk.lf fX11_201) o159 rfl ?_
            refine g_icmp_ne (pc' := 65) (tgt := 69) dX11_isAlike_62 rfl (by decide) (fun (c8 : ¬ (σ.1 159 19 : Int32) = (σ.1 159 30)) => ?_) (fun (c8 : (σ.1 159 19 : Int32) = (σ.1 159 30)) => ?_)
            · refine g_iconst (pc' := 70) (v := 0) dX11_isAlike_69 rfl (by decide) ?_
              refine g_istore_n (pc' := 71) (j := 1) (lv' := [(1, .int (0)), (0, .ref (b + 159))]) dX11_isAlike_70 rfl rfl (by decide) rfl ?_
              refine g_iconst (pc' := 72) (v := 0) dX11_isAlike_71 rfl (by decide) ?_
              refine g_istore_n (pc' := 73) (j := 2) (lv' := [(2, .int (0)), (1, .int (0)), (0, .ref (b + 159))]) dX11_isAlike_72 rfl rfl (by decide) rfl ?_
              rw [show ial0 σ = false by unfold ial0; rw [if_pos c1, if_pos c2, if_pos c3, if_pos c6, if_pos c7, if_neg c8]]
              refine g_sub [2, 1, 0] rfl ?_
              exact lp_ial hc hn n 0 false (by omega)
            · refine g_iconst (pc' := 66) (v := 1) dX11_isAlike_65 rfl (by decide) ?_
              refine g_goto (tgt := 70) dX11_isAlike_66 (by decide) ?_
              refine g_istore_n (pc' := 71) (j := 1) (lv' := [(1, .int (1)), (0, .ref (b + 159))]) dX11_isAlike_70 rfl rfl (by decide) rfl ?_
              refine g_iconst (pc' := 72) (v := 0) dX11_isAlike_71 rfl (by decide) ?_
              refine g_istore_n (pc' := 73) (j := 2) (lv' := [(2, .int (0)), (1, .int (1)), (0, .ref (b + 159))]) dX11_isAlike_72 rfl rfl (by decide) rfl ?_
              rw [show ial0 σ = true by unfold ial0; rw [if_pos c1, if_pos c2, if_pos c3, if_pos c6, if_pos c7, if_pos c8]]
              refine g_sub [2, 1, 0] rfl ?_
              exact lp_ial hc hn n 0 true (by omega)
theorem bv_and {x : Int32} (h : ¬ x = 0) : (x &&& (x - 1)).toBitVec.toNat < x.toBitVec.toNat := by
  have h0 : x.toBitVec.toNat ≠ 0 := fun z => h (Int32.toBitVec_inj.mp (BitVec.eq_of_toNat_eq z))
  have h1 : (x - 1).toBitVec.toNat = x.toBitVec.toNat - 1 := by
    show (x.toBitVec - 1#32).toNat = _
    rw [BitVec.toNat_sub]
    have := x.toBitVec.isLt
    simp
    omega
  have h2 : (x &&& (x - 1)).toBitVec.toNat = x.toBitVec.toNat &&& (x - 1).toBitVec.toNat := rfl
  rw [h2, h1]
  have := @Nat.and_le_right x.toBitVec.toNat (x.toBitVec.toNat - 1)
  omega
def btF : Nat → Int32 → Int32 → Int32
  | 0, n, _ => n
  | m + 1, n, x => if x = 0 then n else btF m (n + 1) (x &&& (x - 1))
set_option maxRecDepth 100000 in
set_option maxHeartbeats 4000000 in
theorem lp_bits {l : Launch} {b : Nat} {cy : Nat → ClassId} {D : va_G} {d : Nat}   {σ : Sg}   : ∀ (m : Nat) (n : Int32) (x : Int32), x.toBitVec.toNat < m → Gs l b cy D (d + 0) yX11_bits cX11_bits (Option.some Jvm.ClassFile.FieldType.int) 3 (some (.int (btF m n x))) σ 4 [(1, .int (n)), (2, .int (x))] [] σ := by
  intro m
  induction m with
  | zero =>
    intro n x hm
    refine g_iload_n (pc' := 5) dX11_bits_4 rfl 1 rfl rfl ?_
    refine g_if_eq (pc' := 8) (tgt := 20) dX11_bits_5 rfl (by decide) (fun (c1 : (x : Int32) = 0) => ?_) (fun (c1 : ¬ (x : Int32) = 0) => ?_)
    · exact absurd hm (Nat.not_lt_zero _)
    · exact absurd hm (Nat.not_lt_zero _)
  | succ m ih =>
    intro n x hm
    refine g_iload_n (pc' := 5) dX11_bits_4 rfl 1 rfl rfl ?_
    refine g_if_eq (pc' := 8) (tgt := 20) dX11_bits_5 rfl (by decide) (fun (c1 : (x : Int32) = 0) => ?_) (fun (c1 : ¬ (x : Int32) = 0) => ?_)
    · refine g_iload_n (pc' := 21) dX11_bits_20 rfl 0 rfl rfl ?_
      exact g_iret dX11_bits_21 rfl ⟨rfl, rfl⟩ (by rw [btF, if_pos c1])
    · refine g_iinc (pc' := 11) (v := n + 1) (lv' := [(1, .int (n + 1)), (2, .int (x))]) dX11_bits_8 rfl 0 rfl rfl (by decide) rfl ?_
      refine g_iload_n (pc' := 12) dX11_bits_11 rfl 1 rfl rfl ?_
      refine g_iload_n (pc' := 13) dX11_bits_12 rfl 1 rfl rfl ?_
      refine g_iconst (pc' := 14) (v := 1) dX11_bits_13 rfl (by decide) ?_
      refine g_isub (pc' := 15) dX11_bits_14 rfl ?_
      refine g_iand (pc' := 16) dX11_bits_15 rfl ?_
      refine g_istore_n (pc' := 17) (j := 2) (lv' := [(2, .int (x &&& (x - 1))), (1, .int (n + 1))]) dX11_bits_16 rfl rfl (by decide) rfl ?_
      refine g_goto (tgt := 4) dX11_bits_17 (by decide) ?_
      rw [show btF (m + 1) n x = btF m (n + 1) (x &&& (x - 1)) by rw [btF, if_neg c1]]
      refine g_sub [1, 0] rfl ?_
      exact ih _ _ (by have := bv_and c1; omega)
set_option maxRecDepth 100000 in
set_option maxHeartbeats 4000000 in
theorem ev_X11_bits {l : Launch} {b : Nat} {cy : Nat → ClassId} {D : va_G} {d : Nat}  {x1 : Int32}  {σ : Sg}   : Es l b cy D (d + 0) yX11_bits cX11_bits (Option.some Jvm.ClassFile.FieldType.int) 3 [.int (x1)] σ (some (.int (btF (x1.toBitVec.toNat + 1) 0 x1))) σ := by
  refine Ev.of (by decide) (Nat.le_of_ble_eq_true rfl) rfl ?_
  refine g_iconst (pc' := 1) (v := 0) dX11_bits_0 rfl (by decide) ?_
  refine g_istore_n (pc' := 2) (j := 1) (lv' := [(1, .int (0)), (0, .int (x1))]) dX11_bits_1 rfl rfl (by decide) rfl ?_
  refine g_iload_n (pc' := 3) dX11_bits_2 rfl 1 rfl rfl ?_
  refine g_istore_n (pc' := 4) (j := 2) (lv' := [(2, .int (x1)), (1, .int (0)), (0, .int (x1))]) dX11_bits_3 rfl rfl (by decide) rfl ?_
  refine g_sub [1, 0] rfl ?_
  exact lp_bits _ _ _ (Nat.lt_succ_self _)
