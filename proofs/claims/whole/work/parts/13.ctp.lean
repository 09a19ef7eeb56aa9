theorem g_sub {l : Launch} {b : Nat} {cy : Nat → ClassId} {D : va_G} {R : Room} {y : MethodName} {cc : ByteArray} {ret : Option FieldType} {nL mc ms : Nat} {Z : Zt} {pc : Nat} {lv lv' : List (Nat × Value)} {st : List Value} {kc ks : Nat} {sh : Nat → Shp} {n : Nat} {σ : Sg} (is : List Nat) (h : lv_pick lv is = lv') (k : G l b cy D R y cc ret nL mc ms Z pc lv' st kc ks sh n σ) : G l b cy D R y cc ret nL mc ms Z pc lv st kc ks sh n σ := by
  intro p e s m args below meth c H locs ls hx hb hr hml hown hts hlk hmn hK hbs hW hS hl
  exact k hx hb hr hml hown hts hlk hmn hK hbs hW hS (lv_sub hl is h)
theorem le_not_lt {x y : Int32} (h : y ≤ x) : ¬ x < y := Int32.not_lt.mpr h
theorem not_le_lt {x y : Int32} (h : ¬ y ≤ x) : x < y := Int32.not_le.mp h
theorem nle {a c : Nat} {x y : Int32} (h : x ≤ y) (hx : x = nI a) (hy : y = nI c) (ha : a < 2 ^ 31) (hc : c < 2 ^ 31) : a ≤ c := by
  subst hx; subst hy
  exact (nI_leI ha hc).mp h
theorem nnle {a c : Nat} {x y : Int32} (h : ¬ x ≤ y) (hx : x = nI a) (hy : y = nI c) (ha : a < 2 ^ 31) (hc : c < 2 ^ 31) : c < a := by
  subst hx; subst hy
  exact Nat.not_le.mp (fun q => h ((nI_leI ha hc).mpr q))
theorem nlt' {a c : Nat} {x y : Int32} (h : x < y) (hx : x = nI a) (hy : y = nI c) (ha : a < 2 ^ 31) (hc : c < 2 ^ 31) : a < c := by
  subst hx; subst hy
  exact (nI_ltI ha hc).mp h
theorem nnlt {a c : Nat} {x y : Int32} (h : ¬ x < y) (hx : x = nI a) (hy : y = nI c) (ha : a < 2 ^ 31) (hc : c < 2 ^ 31) : c ≤ a := by
  subst hx; subst hy
  exact Nat.not_lt.mp (fun q => h ((nI_ltI ha hc).mpr q))
/-- Square.carryToProduct -/
def cpS (k : Nat) (σ : Sg) : Sg := if rX6_hasLikeSides k (sX6_carryByR k (rX6_stepsToEvenOut k σ) σ) = true then sX6_carryByR k (rX6_stepsToEvenOut k σ) σ else sX6_carryByS k (sX6_carryByR k (rX6_stepsToEvenOut k σ) σ)
def cpF (k : Nat) : Nat → Sg → Sg
  | 0, σ => σ
  | m + 1, σ => if rX6_hasLikeSides k σ = true then σ else cpF k m (cpS k σ)
def cpE (k : Nat) (σ : Sg) : Sg := if σ.2 k 1 < 0 then sX6_carryByS k σ else σ
def sX6_carryToProduct (k : Nat) (σ : Sg) : Sg := cpE k (cpF k 64 σ)
set_option maxRecDepth 100000 in
set_option maxHeartbeats 4000000 in
theorem lp_ctp {l : Launch} {b : Nat} {cy : Nat → ClassId} {D : va_G} {d : Nat} {k : Nat}   (hk : Sq k)  : ∀ (m : Nat) (j : Nat) (σ : Sg), j + m = 64 → Gs l b cy D (d + 2) yX6_carryToProduct cX6_carryToProduct (Option.none : Option Jvm.ClassFile.FieldType) 2 none (cpE k (cpF k m σ)) 2 [(0, .ref (b + k)), (1, .int (nI j))] [] σ := by
  intro m
  induction m with
  | zero =>
    intro j σ hj
    refine g_iload_n (pc' := 3) dX6_carryToProduct_2 rfl 1 rfl rfl ?_
    refine g_bipush (pc' := 5) (v := 64) dX6_carryToProduct_3 rfl (by decide) ?_
    refine g_icmp_ge (pc' := 8) (tgt := 40) dX6_carryToProduct_5 rfl (by decide) (fun (c1 : (64 : Int32) ≤ (nI j)) => ?_) (fun (c1 : ¬ (64 : Int32) ≤ (nI j)) => ?_)
    · refine g_aload_n (pc' := 41) dX6_carryToProduct_40 rfl 0 rfl rfl ?_
      refine g_getL (pc' := 44) dX6_carryToProduct_41 rfl (PLk.lf fX6_15) hk rfl ?_
      refine g_lconst (pc' := 45) (v := 0) dX6_carryToProduct_44 rfl (by decide) ?_
      refine g_lif_ge (pc' := 49) (tgt := 53) dX6_carryToProduct_45 dX6_carryToProduct_46 rfl (by decide) (fun (c2 : ¬ (σ.2 k 1 : Int64) < 0) => ?_) (fun (c2 : (σ.2 k 1 : Int64) < 0) => ?_)
      · exact g_vret dX6_carryToProduct_53 rfl ⟨rfl, rfl⟩ (by show (none, shF, NP, cpE k σ) = _; simp only [cpE, if_neg c2])
      · refine g_aload_n (pc' := 50) dX6_carryToProduct_49 rfl 0 rfl rfl ?_
        refine g_callv (pc' := 53) dX6_carryToProduct_50 rfl mX6_40 (ev_X6_carryByS (k := k) (σ := σ) hk (d := d + 1)) hk rfl (rm_ok (by omega) (by decide)) ⟨rfl, rfl⟩ ⟨Nat.zero_le _, Nat.zero_le _⟩ rfl rfl (Nat.le_of_ble_eq_true rfl) ?_
        exact g_vret dX6_carryToProduct_53 rfl ⟨rfl, rfl⟩ (by show (none, shF, NP, cpE k σ) = _; simp only [cpE, if_pos c2])
    · exact absurd ((nI_leI (a := 64) (b := j) (by omega) (by omega)).mpr (by omega)) c1
  | succ m ih =>
    intro j σ hj
    refine g_iload_n (pc' := 3) dX6_carryToProduct_2 rfl 1 rfl rfl ?_
    refine g_bipush (pc' := 5) (v := 64) dX6_carryToProduct_3 rfl (by decide) ?_
    refine g_icmp_ge (pc' := 8) (tgt := 40) dX6_carryToProduct_5 rfl (by decide) (fun (c1 : (64 : Int32) ≤ (nI j)) => ?_) (fun (c1 : ¬ (64 : Int32) ≤ (nI j)) => ?_)
    · exact absurd (nle (a := 64) (c := j) c1 rfl rfl (by omega) (by omega)) (by omega)
    · refine g_aload_n (pc' := 9) dX6_carryToProduct_8 rfl 0 rfl rfl ?_
      refine g_callr (pc' := 12) dX6_carryToProduct_9 rfl mX6_28 (ev_X6_hasLikeSides (k := k) (σ := σ) hk (d := d + 1)) hk rfl (rm_ok (by omega) (by decide)) ⟨rfl, rfl⟩ ⟨Nat.zero_le _, Nat.zero_le _⟩ rfl rfl (Nat.le_of_ble_eq_true rfl) ?_
      refine g_ifb_ne (pc' := 15) (tgt := 40) dX6_carryToProduct_12 rfl (by decide) (fun (c2 : (rX6_hasLikeSides k σ) = true) => ?_) (fun (c2 : (rX6_hasLikeSides k σ) = false) => ?_)
      · refine g_aload_n (pc' := 41) dX6_carryToProduct_40 rfl 0 rfl rfl ?_
        refine g_getL (pc' := 44) dX6_carryToProduct_41 rfl (PLk.lf fX6_15) hk rfl ?_
        refine g_lconst (pc' := 45) (v := 0) dX6_carryToProduct_44 rfl (by decide) ?_
        refine g_lif_ge (pc' := 49) (tgt := 53) dX6_carryToProduct_45 dX6_carryToProduct_46 rfl (by decide) (fun (c3 : ¬ (σ.2 k 1 : Int64) < 0) => ?_) (fun (c3 : (σ.2 k 1 : Int64) < 0) => ?_)
        · exact g_vret dX6_carryToProduct_53 rfl ⟨rfl, rfl⟩ (by simp only [cpF, if_pos c2, cpE, if_neg c3])
        · refine g_aload_n (pc' := 50) dX6_carryToProduct_49 rfl 0 rfl rfl ?_
          refine g_callv (pc' := 53) dX6_carryToProduct_50 rfl mX6_40 (ev_X6_carryByS (k := k) (σ := σ) hk (d := d + 1)) hk rfl (rm_ok (by omega) (by decide)) ⟨rfl, rfl⟩ ⟨Nat.zero_le _, Nat.zero_le _⟩ rfl rfl (Nat.le_of_ble_eq_true rfl) ?_
          exact g_vret dX6_carryToProduct_53 rfl ⟨rfl, rfl⟩ (by simp only [cpF, if_pos c2, cpE, if_pos c3])
      · refine g_aload_n (pc' := 16) dX6_carryToProduct_15 rfl 0 rfl rfl ?_
        refine g_aload_n (pc' := 17) dX6_carryToProduct_16 rfl 0 rfl rfl ?_
        refine g_callr (pc' := 20) dX6_carryToProduct_17 rfl mX6_32 (ev_X6_stepsToEvenOut (k := k) (σ := σ) hk (d := d)) hk rfl (rm_ok (by omega) (by decide)) ⟨rfl, rfl⟩ ⟨Nat.zero_le _, Nat.zero_le _⟩ rfl rfl (Nat.le_of_ble_eq_true rfl) ?_
        refine g_callv (pc' := 23) dX6_carryToProduct_20 rfl mX6_36 (ev_X6_carryByR (k := k) (x1 := rX6_stepsToEvenOut k σ) (σ := σ) hk (d := d + 1)) hk rfl (rm_ok (by omega) (by decide)) ⟨rfl, rfl⟩ ⟨Nat.zero_le _, Nat.zero_le _⟩ rfl rfl (Nat.le_of_ble_eq_true rfl) ?_
        refine g_aload_n (pc' := 24) dX6_carryToProduct_23 rfl 0 rfl rfl ?_
        refine g_callr (pc' := 27) dX6_carryToProduct_24 rfl mX6_28 (ev_X6_hasLikeSides (k := k) (σ := sX6_carryByR k (rX6_stepsToEvenOut k σ) σ) hk (d := d + 1)) hk rfl (rm_ok (by omega) (by decide)) ⟨rfl, rfl⟩ ⟨Nat.zero_le _, Nat.zero_le _⟩ rfl rfl (Nat.le_of_ble_eq_true rfl) ?_
        refine g_ifb_ne (pc' := 30) (tgt := 34) dX6_carryToProduct_27 rfl (by decide) (fun (c4 : (rX6_hasLikeSides k (sX6_carryByR k (rX6_stepsToEvenOut k σ) σ)) = true) => ?_) (fun (c4 : (rX6_hasLikeSides k (sX6_carryByR k (rX6_stepsToEvenOut k σ) σ)) = false) => ?_)
        · refine g_iinc (pc' := 37) (v := nI (j + 1)) (lv' := [(1, .int (nI (j + 1))), (0, .ref (b + k))]) dX6_carryToProduct_34 rfl 1 rfl (nI_1 j) (by decide) rfl ?_
          refine g_goto (tgt := 2) dX6_carryToProduct_37 (by decide) ?_
          rw [show cpF k (m + 1) σ = cpF k m (sX6_carryByR k (rX6_stepsToEvenOut k σ) σ) by simp only [cpF, cpS, if_neg (bf c2), if_pos c4]]
          refine g_sub [1, 0] rfl ?_
          exact ih (j + 1) _ (by omega)
        · refine g_aload_n (pc' := 31) dX6_carryToProduct_30 rfl 0 rfl rfl ?_
          refine g_callv (pc' := 34) dX6_carryToProduct_31 rfl mX6_40 (ev_X6_carryByS (k := k) (σ := sX6_carryByR k (rX6_stepsToEvenOut k σ) σ) hk (d := d + 1)) hk rfl (rm_ok (by omega) (by decide)) ⟨rfl, rfl⟩ ⟨Nat.zero_le _, Nat.zero_le _⟩ rfl rfl (Nat.le_of_ble_eq_true rfl) ?_
          refine g_iinc (pc' := 37) (v := nI (j + 1)) (lv' := [(1, .int (nI (j + 1))), (0, .ref (b + k))]) dX6_carryToProduct_34 rfl 1 rfl (nI_1 j) (by decide) rfl ?_
          refine g_goto (tgt := 2) dX6_carryToProduct_37 (by decide) ?_
          rw [show cpF k (m + 1) σ = cpF k m (sX6_carryByS k (sX6_carryByR k (rX6_stepsToEvenOut k σ) σ)) by simp only [cpF, cpS, if_neg (bf c2), if_neg (bf c4)]]
          refine g_sub [1, 0] rfl ?_
          exact ih (j + 1) _ (by omega)
set_option maxRecDepth 100000 in
set_option maxHeartbeats 4000000 in
theorem ev_X6_carryToProduct {l : Launch} {b : Nat} {cy : Nat → ClassId} {D : va_G} {d : Nat} {k : Nat}   {σ : Sg} (hk : Sq k)  : Es l b cy D (d + 2) yX6_carryToProduct cX6_carryToProduct (Option.none : Option Jvm.ClassFile.FieldType) 2 [.ref (b + k)] σ none (sX6_carryToProduct k σ) := by
  refine Ev.of (by decide) (Nat.le_of_ble_eq_true rfl) rfl ?_
  refine g_iconst (pc' := 1) (v := 0) dX6_carryToProduct_0 rfl (by decide) ?_
  refine g_istore_n (pc' := 2) (j := 1) (lv' := [(1, .int (0)), (0, .ref (b + k))]) dX6_carryToProduct_1 rfl rfl (by decide) rfl ?_
  refine g_sub [1, 0] rfl ?_
  exact lp_ctp hk 64 0 σ (by omega)
