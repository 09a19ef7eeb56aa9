noncomputable section
noncomputable def wgA (n k : Nat) (σ : Sg) : Bool := rX11_areAlike n (σ.1 165 (3 * k)).toNatClampNeg (σ.1 165 (3 * k + 1)).toNatClampNeg (σ.1 165 (3 * k)) (σ.1 165 (3 * k + 1)) σ
noncomputable def wgS (n k : Nat) (σ : Sg) : Sg := sX11_areAlike n (σ.1 165 (3 * k)).toNatClampNeg (σ.1 165 (3 * k + 1)).toNatClampNeg (σ.1 165 (3 * k)) (σ.1 165 (3 * k + 1)) σ
noncomputable def wgF (n : Nat) : Nat → Nat → Sg → Int32 × Sg
  | 0, _, σ => (-1, σ)
  | m + 1, k, σ => if rX11_isSquare (σ.1 165 (3 * k)) σ = true then (if rX11_isSquare (σ.1 165 (3 * k + 1)) σ = true then (if (wgS n k σ).1 165 (3 * k + 2) = 1 then (if (bI (wgA n k σ) : Int32) = 1 then wgF n m (k + 1) (wgS n k σ) else (nI k, wgS n k σ)) else (if (bI (wgA n k σ) : Int32) = 0 then wgF n m (k + 1) (wgS n k σ) else (nI k, wgS n k σ))) else (nI k, σ)) else (nI k, σ)
theorem i3 (c k : Nat) : 3 * nI k + nI c = nI (3 * k + c) := by rw [show (3 : Int32) = nI 3 from rfl, pk_mul, nI_add]
theorem i30 (k : Nat) : 3 * nI k = nI (3 * k) := by rw [show (3 : Int32) = nI 3 from rfl, pk_mul]
theorem kq10e {σ τ : Sg} {e : Nat} (h : Kq I10 L10 σ τ) (he : σ.1 159 10 = nI e) : τ.1 159 10 = nI e := (h.1 159 10 (Eq.refl _)).trans he
theorem kq_wgS {n k : Nat} {σ : Sg} (hN : NowOk (σ.1 160) n) (hn : n ≤ 12) (hc : σ.1 160 0 = nI n) (h1 : rX11_isSquare (σ.1 165 (3 * k)) σ = true) (h2 : rX11_isSquare (σ.1 165 (3 * k + 1)) σ = true) : Kq I10 L10 σ (wgS n k σ) := kq_al hN (isq hc hn h1).2 (isq hc hn h2).2
theorem kq_wg {n : Nat} (hn : n ≤ 12) : ∀ (m k : Nat) (σ : Sg), σ.1 160 0 = nI n → NowOk (σ.1 160) n → Kq I10 L10 σ (wgF n m k σ).2 := by
  intro m
  induction m with
  | zero => intro k σ _ _; exact Kq.rfl
  | succ m ih =>
    intro k σ hc hN
    rw [wgF]
    split
    · next h1 =>
      split
      · next h2 =>
        have q := kq_wgS hN hn hc h1 h2
        split
        · split
          · exact q.trans (ih _ _ (hc_tr q hc) (now_tr q hN))
          · exact q
        · split
          · exact q.trans (ih _ _ (hc_tr q hc) (now_tr q hN))
          · exact q
      · exact Kq.rfl
    · exact Kq.rfl
set_option maxRecDepth 100000 in
set_option maxHeartbeats 4000000 in
theorem lp_wg {l : Launch} {b : Nat} {cy : Nat → ClassId} {D : va_G} {d : Nat}   {n e : Nat}   (hn : n ≤ 12) (hel : e ≤ 20) : ∀ (m : Nat) (k : Nat) (σ : Sg), k + m = e → σ.1 159 10 = nI e → σ.1 160 0 = nI n → NowOk (σ.1 160) n → Gs l b cy D (d + 6) yX11_wrong cX11_wrong (Option.some Jvm.ClassFile.FieldType.int) 4 (some (.int (wgF n m k σ).1)) (wgF n m k σ).2 2 [(0, .ref (b + 159)), (1, .int (nI k))] [] σ := by
  intro m
  induction m with
  | zero =>
    intro k σ hk he hc hN
    refine g_iload_n (pc' := 3) dX11_wrong_2 rfl 1 rfl rfl ?_
    refine g_aload_n (pc' := 4) dX11_wrong_3 rfl 0 rfl rfl ?_
    refine g_getI (pc' := 7) dX11_wrong_4 rfl (PLk.lf fX11_231) o159 rfl ?_
    refine g_icmp_ge (pc' := 10) (tgt := 82) dX11_wrong_7 rfl (by decide) (fun (c1 : (σ.1 159 10 : Int32) ≤ (nI k)) => ?_) (fun (c1 : ¬ (σ.1 159 10 : Int32) ≤ (nI k)) => ?_)
    · refine g_iconst (pc' := 83) (v := -1) dX11_wrong_82 rfl (by decide) ?_
      exact g_iret dX11_wrong_83 rfl ⟨rfl, rfl⟩ rfl
    · exact absurd (by rw [he]; exact (nI_leI (by omega) (by omega)).mpr (by omega)) c1
  | succ m ih =>
    intro k σ hk he hc hN
    refine g_iload_n (pc' := 3) dX11_wrong_2 rfl 1 rfl rfl ?_
    refine g_aload_n (pc' := 4) dX11_wrong_3 rfl 0 rfl rfl ?_
    refine g_getI (pc' := 7) dX11_wrong_4 rfl (PLk.lf fX11_231) o159 rfl ?_
    refine g_icmp_ge (pc' := 10) (tgt := 82) dX11_wrong_7 rfl (by decide) (fun (c1 : (σ.1 159 10 : Int32) ≤ (nI k)) => ?_) (fun (c1 : ¬ (σ.1 159 10 : Int32) ≤ (nI k)) => ?_)
    · exact absurd (nle (a := e) (c := k) c1 he rfl (by omega) (by omega)) (by omega)
    · refine g_aload_n (pc' := 11) dX11_wrong_10 rfl 0 rfl rfl ?_
      refine g_getR (pc' := 14) (a := 165) dX11_wrong_11 rfl (PLk.lf fX11_30) o159 rfl ?_
      refine g_iconst (pc' := 15) (v := 3) dX11_wrong_14 rfl (by decide) ?_
      refine g_iload_n (pc' := 16) dX11_wrong_15 rfl 1 rfl rfl ?_
      refine g_imul (pc' := 17) dX11_wrong_16 rfl ?_
      refine g_iald (pc' := 18) (j := (3 * k)) dX11_wrong_17 rfl o165 (by decide) (i30 k) (by omega) ?_
      refine g_istore_n (pc' := 19) (j := 2) (lv' := [(2, .int (σ.1 165 (3 * k))), (0, .ref (b + 159)), (1, .int (nI k))]) dX11_wrong_18 rfl rfl (by decide) rfl ?_
      refine g_aload_n (pc' := 20) dX11_wrong_19 rfl 1 rfl rfl ?_
      refine g_getR (pc' := 23) (a := 165) dX11_wrong_20 rfl (PLk.lf fX11_30) o159 rfl ?_
      refine g_iconst (pc' := 24) (v := 3) dX11_wrong_23 rfl (by decide) ?_
      refine g_iload_n (pc' := 25) dX11_wrong_24 rfl 2 rfl rfl ?_
      refine g_imul (pc' := 26) dX11_wrong_25 rfl ?_
      refine g_iconst (pc' := 27) (v := 1) dX11_wrong_26 rfl (by decide) ?_
      refine g_iadd (pc' := 28) dX11_wrong_27 rfl ?_
      refine g_iald (pc' := 29) (j := (3 * k + 1)) dX11_wrong_28 rfl o165 (by decide) (i3 1 k) (by omega) ?_
      refine g_istore_n (pc' := 30) (j := 3) (lv' := [(3, .int (σ.1 165 (3 * k + 1))), (2, .int (σ.1 165 (3 * k))), (0, .ref (b + 159)), (1, .int (nI k))]) dX11_wrong_29 rfl rfl (by decide) rfl ?_
      refine g_aload_n (pc' := 31) dX11_wrong_30 rfl 2 rfl rfl ?_
      refine g_iload_n (pc' := 32) dX11_wrong_31 rfl 1 rfl rfl ?_
      refine g_callr (pc' := 35) dX11_wrong_32 rfl mX11_234 (ev_X11_isSquare (x1 := σ.1 165 (3 * k)) (σ := σ)  (d := d + 4)) o159 rfl (rm_ok (by omega) (by decide)) ⟨rfl, rfl⟩ ⟨Nat.zero_le _, Nat.zero_le _⟩ rfl rfl (Nat.le_of_ble_eq_true rfl) ?_
      refine g_ifb_eq (pc' := 38) (tgt := 74) dX11_wrong_35 rfl (by decide) (fun (c2 : (rX11_isSquare (σ.1 165 (3 * k)) σ) = false) => ?_) (fun (c2 : (rX11_isSquare (σ.1 165 (3 * k)) σ) = true) => ?_)
      · refine g_iload_n (pc' := 75) dX11_wrong_74 rfl 3 rfl rfl ?_
        exact g_iret dX11_wrong_75 rfl ⟨rfl, rfl⟩ (by rw [wgF, if_neg (bf (show rX11_isSquare (σ.1 165 (3 * k)) σ = false from c2))]; try rfl)
      · refine g_aload_n (pc' := 39) dX11_wrong_38 rfl 2 rfl rfl ?_
        refine g_iload_n (pc' := 40) dX11_wrong_39 rfl 0 rfl rfl ?_
        refine g_callr (pc' := 43) dX11_wrong_40 rfl mX11_234 (ev_X11_isSquare (x1 := σ.1 165 (3 * k + 1)) (σ := σ)  (d := d + 4)) o159 rfl (rm_ok (by omega) (by decide)) ⟨rfl, rfl⟩ ⟨Nat.zero_le _, Nat.zero_le _⟩ rfl rfl (Nat.le_of_ble_eq_true rfl) ?_
        refine g_ifb_eq (pc' := 46) (tgt := 74) dX11_wrong_43 rfl (by decide) (fun (c3 : (rX11_isSquare (σ.1 165 (3 * k + 1)) σ) = false) => ?_) (fun (c3 : (rX11_isSquare (σ.1 165 (3 * k + 1)) σ) = true) => ?_)
        · refine g_iload_n (pc' := 75) dX11_wrong_74 rfl 3 rfl rfl ?_
          exact g_iret dX11_wrong_75 rfl ⟨rfl, rfl⟩ (by rw [wgF, if_pos (show rX11_isSquare (σ.1 165 (3 * k)) σ = true from c2), if_neg (bf (show rX11_isSquare (σ.1 165 (3 * k + 1)) σ = false from c3))]; try rfl)
        · refine g_aload_n (pc' := 47) dX11_wrong_46 rfl 2 rfl rfl ?_
          refine g_iload_n (pc' := 48) dX11_wrong_47 rfl 1 rfl rfl ?_
          refine g_iload_n (pc' := 49) dX11_wrong_48 rfl 0 rfl rfl ?_
          refine g_callr (pc' := 52) dX11_wrong_49 rfl mX11_237 (ev_X11_areAlike (n := n) (s := (σ.1 165 (3 * k)).toNatClampNeg) (u := (σ.1 165 (3 * k + 1)).toNatClampNeg) (x1 := σ.1 165 (3 * k)) (x2 := σ.1 165 (3 * k + 1)) (σ := σ) hN hn (isq hc hn c2).1 (isq hc hn c2).2 (isq hc hn c3).1 (isq hc hn c3).2 (d := d)) o159 rfl (rm_ok (by omega) (by decide)) ⟨rfl, rfl⟩ ⟨Nat.zero_le _, Nat.zero_le _⟩ rfl rfl (Nat.le_of_ble_eq_true rfl) ?_
          refine g_aload_n (pc' := 53) dX11_wrong_52 rfl 2 rfl rfl ?_
          refine g_getR (pc' := 56) (a := 165) dX11_wrong_53 rfl (PLk.lf fX11_30) o159 rfl ?_
          refine g_iconst (pc' := 57) (v := 3) dX11_wrong_56 rfl (by decide) ?_
          refine g_iload_n (pc' := 58) dX11_wrong_57 rfl 3 rfl rfl ?_
          refine g_imul (pc' := 59) dX11_wrong_58 rfl ?_
          refine g_iconst (pc' := 60) (v := 2) dX11_wrong_59 rfl (by decide) ?_
          refine g_iadd (pc' := 61) dX11_wrong_60 rfl ?_
          refine g_iald (pc' := 62) (j := (3 * k + 2)) dX11_wrong_61 rfl o165 (by decide) (i3 2 k) (by omega) ?_
          refine g_iconst (pc' := 63) (v := 1) dX11_wrong_62 rfl (by decide) ?_
          refine g_icmp_ne (pc' := 66) (tgt := 70) dX11_wrong_63 rfl (by decide) (fun (c4 : ¬ (((sX11_areAlike n ((σ.1 165 (3 * k)).toNatClampNeg) ((σ.1 165 (3 * k + 1)).toNatClampNeg) (σ.1 165 (3 * k)) (σ.1 165 (3 * k + 1)) σ).1) 165 (3 * k + 2) : Int32) = 1) => ?_) (fun (c4 : (((sX11_areAlike n ((σ.1 165 (3 * k)).toNatClampNeg) ((σ.1 165 (3 * k + 1)).toNatClampNeg) (σ.1 165 (3 * k)) (σ.1 165 (3 * k + 1)) σ).1) 165 (3 * k + 2) : Int32) = 1) => ?_)
          · refine g_iconst (pc' := 71) (v := 0) dX11_wrong_70 rfl (by decide) ?_
            refine g_icmp_eq (pc' := 74) (tgt := 76) dX11_wrong_71 rfl (by decide) (fun (c5 : (bI (rX11_areAlike n ((σ.1 165 (3 * k)).toNatClampNeg) ((σ.1 165 (3 * k + 1)).toNatClampNeg) (σ.1 165 (3 * k)) (σ.1 165 (3 * k + 1)) σ) : Int32) = 0) => ?_) (fun (c5 : ¬ (bI (rX11_areAlike n ((σ.1 165 (3 * k)).toNatClampNeg) ((σ.1 165 (3 * k + 1)).toNatClampNeg) (σ.1 165 (3 * k)) (σ.1 165 (3 * k + 1)) σ) : Int32) = 0) => ?_)
            · refine g_iinc (pc' := 79) (v := nI (k + 1)) (lv' := [(1, .int (nI (k + 1))), (3, .int (σ.1 165 (3 * k + 1))), (2, .int (σ.1 165 (3 * k))), (0, .ref (b + 159))]) dX11_wrong_76 rfl 3 rfl (nI_1 k) (by decide) rfl ?_
              refine g_goto (tgt := 2) dX11_wrong_79 (by decide) ?_
              rw [show wgF n (m + 1) k σ = wgF n m (k + 1) (wgS n k σ) by rw [wgF, if_pos (show rX11_isSquare (σ.1 165 (3 * k)) σ = true from c2), if_pos (show rX11_isSquare (σ.1 165 (3 * k + 1)) σ = true from c3), if_neg (show ¬ (wgS n k σ).1 165 (3 * k + 2) = 1 from c4), if_pos (show (bI (wgA n k σ) : Int32) = 0 from c5)]]
              refine g_sub [3, 0] rfl ?_
              exact ih (k + 1) _ (by omega) (kq10e (kq_wgS (k := k) hN hn hc c2 c3) he) (hc_tr (kq_wgS (k := k) hN hn hc c2 c3) hc) (now_tr (kq_wgS (k := k) hN hn hc c2 c3) hN)
            · refine g_iload_n (pc' := 75) dX11_wrong_74 rfl 3 rfl rfl ?_
              exact g_iret dX11_wrong_75 rfl ⟨rfl, rfl⟩ (by rw [wgF, if_pos (show rX11_isSquare (σ.1 165 (3 * k)) σ = true from c2), if_pos (show rX11_isSquare (σ.1 165 (3 * k + 1)) σ = true from c3), if_neg (show ¬ (wgS n k σ).1 165 (3 * k + 2) = 1 from c4), if_neg (show ¬ (bI (wgA n k σ) : Int32) = 0 from c5)]; try rfl)
          · refine g_iconst (pc' := 67) (v := 1) dX11_wrong_66 rfl (by decide) ?_
            refine g_goto (tgt := 71) dX11_wrong_67 (by decide) ?_
            refine g_icmp_eq (pc' := 74) (tgt := 76) dX11_wrong_71 rfl (by decide) (fun (c6 : (bI (rX11_areAlike n ((σ.1 165 (3 * k)).toNatClampNeg) ((σ.1 165 (3 * k + 1)).toNatClampNeg) (σ.1 165 (3 * k)) (σ.1 165 (3 * k + 1)) σ) : Int32) = 1) => ?_) (fun (c6 : ¬ (bI (rX11_areAlike n ((σ.1 165 (3 * k)).toNatClampNeg) ((σ.1 165 (3 * k + 1)).toNatClampNeg) (σ.1 165 (3 * k)) (σ.1 165 (3 * k + 1)) σ) : Int32) = 1) => ?_)
            · refine g_iinc (pc' := 79) (v := nI (k + 1)) (lv' := [(1, .int (nI (k + 1))), (3, .int (σ.1 165 (3 * k + 1))), (2, .int (σ.1 165 (3 * k))), (0, .ref (b + 159))]) dX11_wrong_76 rfl 3 rfl (nI_1 k) (by decide) rfl ?_
              refine g_goto (tgt := 2) dX11_wrong_79 (by decide) ?_
              rw [show wgF n (m + 1) k σ = wgF n m (k + 1) (wgS n k σ) by rw [wgF, if_pos (show rX11_isSquare (σ.1 165 (3 * k)) σ = true from c2), if_pos (show rX11_isSquare (σ.1 165 (3 * k + 1)) σ = true from c3), if_pos (show (wgS n k σ).1 165 (3 * k + 2) = 1 from c4), if_pos (show (bI (wgA n k σ) : Int32) = 1 from c6)]]
              refine g_sub [3, 0] rfl ?_
              exact ih (k + 1) _ (by omega) (kq10e (kq_wgS (k := k) hN hn hc c2 c3) he) (hc_tr (kq_wgS (k := k) hN hn hc c2 c3) hc) (now_tr (kq_wgS (k := k) hN hn hc c2 c3) hN)
            · refine g_iload_n (pc' := 75) dX11_wrong_74 rfl 3 rfl rfl ?_
              exact g_iret dX11_wrong_75 rfl ⟨rfl, rfl⟩ (by rw [wgF, if_pos (show rX11_isSquare (σ.1 165 (3 * k)) σ = true from c2), if_pos (show rX11_isSquare (σ.1 165 (3 * k + 1)) σ = true from c3), if_pos (show (wgS n k σ).1 165 (3 * k + 2) = 1 from c4), if_neg (show ¬ (bI (wgA n k σ) : Int32) = 1 from c6)]; try rfl)
set_option maxRecDepth 100000 in
set_option maxHeartbeats 4000000 in
theorem ev_X11_wrong {l : Launch} {b : Nat} {cy : Nat → ClassId} {D : va_G} {d : Nat}   {n : Nat} {e : Nat} {σ : Sg}  (hN : NowOk (σ.1 160) n) (hn : n ≤ 12) (hc : σ.1 160 0 = nI n) (he : σ.1 159 10 = nI e) (hel : e ≤ 20) : Es l b cy D (d + 6) yX11_wrong cX11_wrong (Option.some Jvm.ClassFile.FieldType.int) 4 [.ref (b + 159)] σ (some (.int ((wgF n e 0 σ).1))) ((wgF n e 0 σ).2) := by
  refine Ev.of (by decide) (Nat.le_of_ble_eq_true rfl) rfl ?_
  refine g_iconst (pc' := 1) (v := 0) dX11_wrong_0 rfl (by decide) ?_
  refine g_istore_n (pc' := 2) (j := 1) (lv' := [(1, .int (0)), (0, .ref (b + 159))]) dX11_wrong_1 rfl rfl (by decide) rfl ?_
  refine g_sub [1, 0] rfl ?_
  exact lp_wg hn hel e 0 _ (by omega) he hc hN
def rX11_told (n : Nat) (e : Nat) (x1 : Int32) (σ : Sg) : Int32 := if (x1 : Int32) = 0 then σ.1 160 0 else if (x1 : Int32) = 1 then σ.1 159 7 else if (x1 : Int32) = 2 then fsR x1 (fsF n n 0 0 0 σ) else if (x1 : Int32) = 3 then fsR x1 (fsF n n 0 0 0 σ) else if (x1 : Int32) = 4 then (twsF n n 0 0 σ).1 else if (x1 : Int32) = 5 then σ.1 159 10 else if (x1 : Int32) = 6 then (wgF n e 0 σ).1 else if (x1 : Int32) = 7 then σ.1 159 2 else -1000000002
def sX11_told (n : Nat) (e : Nat) (x1 : Int32) (σ : Sg) : Sg := if (x1 : Int32) = 0 then σ else if (x1 : Int32) = 1 then σ else if (x1 : Int32) = 2 then (fsF n n 0 0 0 σ).2 else if (x1 : Int32) = 3 then (fsF n n 0 0 0 σ).2 else if (x1 : Int32) = 4 then (twsF n n 0 0 σ).2 else if (x1 : Int32) = 5 then σ else if (x1 : Int32) = 6 then (wgF n e 0 σ).2 else if (x1 : Int32) = 7 then σ else σ
set_option maxRecDepth 100000 in
set_option maxHeartbeats 4000000 in
theorem ev_X11_told {l : Launch} {b : Nat} {cy : Nat → ClassId} {D : va_G} {d : Nat} {n : Nat} {e : Nat} {x1 : Int32} {σ : Sg}  (hN : NowOk (σ.1 160) n) (hn : n ≤ 12) (hc : σ.1 160 0 = nI n) (he : σ.1 159 10 = nI e) (hel : e ≤ 20) : Es l b cy D (d + 7) yX11_told cX11_told (Option.some Jvm.ClassFile.FieldType.int) 2 [.ref (b + 159), .int (x1)] σ (some (.int (rX11_told n e x1 σ))) (sX11_told n e x1 σ) := by
  refine Ev.of (by decide) (Nat.le_of_ble_eq_true rfl) rfl ?_
  refine g_iload_n (pc' := 1) dX11_told_0 rfl 1 rfl rfl ?_
  by_cases c1 : (x1 : Int32) = 0
  · refine g_tabIn (tgt := 48) 0 dX11_told_1 c1 (by decide) (by decide) rfl (by decide) ?_
    refine g_aload_n (pc' := 49) dX11_told_48 rfl 0 rfl rfl ?_
    refine g_getR (pc' := 52) (a := 160) dX11_told_49 rfl (PLk.lf fX11_7) o159 rfl ?_
    refine g_iconst (pc' := 53) (v := 0) dX11_told_52 rfl (by decide) ?_
    refine g_iald (pc' := 54) (j := 0) dX11_told_53 rfl o160 (by decide) (by decide) (by decide) ?_
    exact g_iret dX11_told_54 rfl ⟨rfl, rfl⟩ (by simp only [rX11_told, sX11_told, if_pos c1, bI_t, bI_f])
  by_cases c2 : (x1 : Int32) = 1
  · refine g_tabIn (tgt := 55) 1 dX11_told_1 c2 (by decide) (by decide) rfl (by decide) ?_
    refine g_aload_n (pc' := 56) dX11_told_55 rfl 0 rfl rfl ?_
    refine g_getI (pc' := 59) dX11_told_56 rfl (PLk.lf fX11_86) o159 rfl ?_
    exact g_iret dX11_told_59 rfl ⟨rfl, rfl⟩ (by simp only [rX11_told, sX11_told, if_neg c1, if_pos c2, bI_t, bI_f])
  by_cases c3 : (x1 : Int32) = 2
  · refine g_tabIn (tgt := 60) 2 dX11_told_1 c3 (by decide) (by decide) rfl (by decide) ?_
    refine g_aload_n (pc' := 61) dX11_told_60 rfl 0 rfl rfl ?_
    refine g_iload_n (pc' := 62) dX11_told_61 rfl 1 rfl rfl ?_
    refine g_callr (pc' := 65) dX11_told_62 rfl mX11_240 (ev_X11_families (x1 := x1) (n := n) (σ := σ) hN hn hc (d := d)) o159 rfl (rm_ok (by omega) (by decide)) ⟨rfl, rfl⟩ ⟨Nat.zero_le _, Nat.zero_le _⟩ rfl rfl (Nat.le_of_ble_eq_true rfl) ?_
    exact g_iret dX11_told_65 rfl ⟨rfl, rfl⟩ (by simp only [rX11_told, sX11_told, if_neg c1, if_neg c2, if_pos c3, bI_t, bI_f])
  by_cases c4 : (x1 : Int32) = 3
  · refine g_tabIn (tgt := 60) 3 dX11_told_1 c4 (by decide) (by decide) rfl (by decide) ?_
    refine g_aload_n (pc' := 61) dX11_told_60 rfl 0 rfl rfl ?_
    refine g_iload_n (pc' := 62) dX11_told_61 rfl 1 rfl rfl ?_
    refine g_callr (pc' := 65) dX11_told_62 rfl mX11_240 (ev_X11_families (x1 := x1) (n := n) (σ := σ) hN hn hc (d := d)) o159 rfl (rm_ok (by omega) (by decide)) ⟨rfl, rfl⟩ ⟨Nat.zero_le _, Nat.zero_le _⟩ rfl rfl (Nat.le_of_ble_eq_true rfl) ?_
    exact g_iret dX11_told_65 rfl ⟨rfl, rfl⟩ (by simp only [rX11_told, sX11_told, if_neg c1, if_neg c2, if_neg c3, if_pos c4, bI_t, bI_f])
  by_cases c5 : (x1 : Int32) = 4
  · refine g_tabIn (tgt := 66) 4 dX11_told_1 c5 (by decide) (by decide) rfl (by decide) ?_
    refine g_aload_n (pc' := 67) dX11_told_66 rfl 0 rfl rfl ?_
    refine g_callr (pc' := 70) dX11_told_67 rfl mX11_243 (ev_X11_twins (n := n) (σ := σ) hN hn hc (d := d)) o159 rfl (rm_ok (by omega) (by decide)) ⟨rfl, rfl⟩ ⟨Nat.zero_le _, Nat.zero_le _⟩ rfl rfl (Nat.le_of_ble_eq_true rfl) ?_
    exact g_iret dX11_told_70 rfl ⟨rfl, rfl⟩ (by simp only [rX11_told, sX11_told, if_neg c1, if_neg c2, if_neg c3, if_neg c4, if_pos c5, bI_t, bI_f])
  by_cases c6 : (x1 : Int32) = 5
  · refine g_tabIn (tgt := 71) 5 dX11_told_1 c6 (by decide) (by decide) rfl (by decide) ?_
    refine g_aload_n (pc' := 72) dX11_told_71 rfl 0 rfl rfl ?_
    refine g_getI (pc' := 75) dX11_told_72 rfl (PLk.lf fX11_231) o159 rfl ?_
    exact g_iret dX11_told_75 rfl ⟨rfl, rfl⟩ (by simp only [rX11_told, sX11_told, if_neg c1, if_neg c2, if_neg c3, if_neg c4, if_neg c5, if_pos c6, bI_t, bI_f])
  by_cases c7 : (x1 : Int32) = 6
  · refine g_tabIn (tgt := 76) 6 dX11_told_1 c7 (by decide) (by decide) rfl (by decide) ?_
    refine g_aload_n (pc' := 77) dX11_told_76 rfl 0 rfl rfl ?_
    refine g_callr (pc' := 80) dX11_told_77 rfl mX11_246 (ev_X11_wrong (n := n) (e := e) (σ := σ) hN hn hc he hel (d := d)) o159 rfl (rm_ok (by omega) (by decide)) ⟨rfl, rfl⟩ ⟨Nat.zero_le _, Nat.zero_le _⟩ rfl rfl (Nat.le_of_ble_eq_true rfl) ?_
    exact g_iret dX11_told_80 rfl ⟨rfl, rfl⟩ (by simp only [rX11_told, sX11_told, if_neg c1, if_neg c2, if_neg c3, if_neg c4, if_neg c5, if_neg c6, if_pos c7, bI_t, bI_f])
  by_cases c8 : (x1 : Int32) = 7
  · refine g_tabIn (tgt := 81) 7 dX11_told_1 c8 (by decide) (by decide) rfl (by decide) ?_
    refine g_aload_n (pc' := 82) dX11_told_81 rfl 0 rfl rfl ?_
    refine g_getI (pc' := 85) dX11_told_82 rfl (PLk.lf fX11_90) o159 rfl ?_
    exact g_iret dX11_told_85 rfl ⟨rfl, rfl⟩ (by simp only [rX11_told, sX11_told, if_neg c1, if_neg c2, if_neg c3, if_neg c4, if_neg c5, if_neg c6, if_neg c7, if_pos c8, bI_t, bI_f])
  refine g_tabOut (tgt := 86) dX11_told_1 (by have hh := And.intro trivial trivial; have hh0 := lv_neT c1 (a := 0) (by decide); have hh1 := lv_neT c2 (a := 1) (by decide); have hh2 := lv_neT c3 (a := 2) (by decide); have hh3 := lv_neT c4 (a := 3) (by decide); have hh4 := lv_neT c5 (a := 4) (by decide); have hh5 := lv_neT c6 (a := 5) (by decide); have hh6 := lv_neT c7 (a := 6) (by decide); have hh7 := lv_neT c8 (a := 7) (by decide); omega) (by decide) ?_
  refine g_ldc (pc' := 88) dX11_told_86 rfl kX11_85 ?_
  exact g_iret dX11_told_88 rfl ⟨rfl, rfl⟩ (by simp only [rX11_told, sX11_told, if_neg c1, if_neg c2, if_neg c3, if_neg c4, if_neg c5, if_neg c6, if_neg c7, if_neg c8, bI_t, bI_f])
end
