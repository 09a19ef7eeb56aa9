/-! The text constant: reading a letter of it. -/
section
variable {l : Launch} {b : Nat} {cy : Nat → ClassId} {D : va_G} {R : Room} {y : MethodName} {cc : ByteArray} {ret : Option FieldType} {nL mc ms : Nat} {Z : Zt} {pc pc' tgt : Nat} {lv lv' : List (Nat × Value)} {st : List Value} {kc ks : Nat} {sh : Nat → Shp} {n : Nat} {σ : Sg} {off : Int}
theorem g_ldcS (hd : decode cc pc = .ok (.ldc 244, 2)) (hp : pc + 2 = pc') (hy : y.cls = RX10) (k : G l b cy D R y cc ret nL mc ms Z pc' lv (.ref (D.2 100 0) :: st) kc ks sh n σ) : G l b cy D R y cc ret nL mc ms Z pc lv st kc ks sh n σ := by
  subst hp
  intro p e s m args below meth c H locs ls hx hb hr hml hown hts hlk hmn hK hbs hW hS hl
  exact va_ldcS hx hb (hy ▸ hown) hK.2.2.2.2.2.1 hd (k hx hb hr hml hown hts hlk hmn hK hbs hW hS hl)
theorem g_strV {idx : Nat} (hd : decode cc pc = .ok (.getfield idx, 3)) (hp : pc + 3 = pc') (hlk' : Cond.fieldLink y.cls idx RJ0 "value" "[B" ∈ gt) (k : G l b cy D R y cc ret nL mc ms Z pc' lv (.ref (D.2 100 1) :: st) kc ks sh n σ) : G l b cy D R y cc ret nL mc ms Z pc lv (.ref (D.2 100 0) :: st) kc ks sh n σ := by
  subst hp
  intro p e s m args below meth c H locs ls hx hb hr hml hown hts hlk hmn hK hbs hW hS hl
  exact vk_getf hx hb (hK.2.2.2.2.1.1 0 (by decide)).2.2.1 hS hown (hts _ hlk') (fun _ h => h) hd (k hx hb hr hml hown hts hlk hmn hK hbs hW hS hl)
theorem g_strC {idx : Nat} (hd : decode cc pc = .ok (.getfield idx, 3)) (hp : pc + 3 = pc') (hlk' : Cond.fieldLink y.cls idx RJ0 "coder" "B" ∈ gt) (k : G l b cy D R y cc ret nL mc ms Z pc' lv (.int 0 :: st) kc ks sh n σ) : G l b cy D R y cc ret nL mc ms Z pc lv (.ref (D.2 100 0) :: st) kc ks sh n σ := by
  subst hp
  intro p e s m args below meth c H locs ls hx hb hr hml hown hts hlk hmn hK hbs hW hS hl
  exact vk_getf hx hb (hK.2.2.2.2.1.1 0 (by decide)).2.1 hS hown (hts _ hlk') (fun _ h => h) hd (k hx hb hr hml hown hts hlk hmn hK hbs hW hS hl)
theorem g_getZ {idx : Nat} (hd : decode cc pc = .ok (.getstatic idx, 3)) (hp : pc + 3 = pc') (hlk' : Cond.fieldLink y.cls idx RJ0 "COMPACT_STRINGS" "Z" ∈ gt) (k : G l b cy D R y cc ret nL mc ms Z pc' lv (.int 1 :: st) kc ks sh n σ) : G l b cy D R y cc ret nL mc ms Z pc lv st kc ks sh n σ := by
  subst hp
  intro p e s m args below meth c H locs ls hx hb hr hml hown hts hlk hmn hK hbs hW hS hl
  exact va_gets hx hb hK.2.2.2.2.2.2.1 hS hown (hts _ hlk') (fun _ h => h) hd (k hx hb hr hml hown hts hlk hmn hK hbs hW hS hl)
theorem g_getQ {idx : Nat} (hd : decode cc pc = .ok (.getstatic idx, 3)) (hp : pc + 3 = pc') (hlk' : Cond.fieldLink y.cls idx RJ3 "SIOOBE_FORMATTER" "Ljava/util/function/BiFunction;" ∈ gt) (k1 : G l b cy D R y cc ret nL mc ms Z pc' lv (.null :: st) kc ks sh n σ) (k2 : ∀ t : Nat, G l b cy D R y cc ret nL mc ms Z pc' lv (.ref t :: st) kc ks sh n σ) : G l b cy D R y cc ret nL mc ms Z pc lv st kc ks sh n σ := by
  subst hp
  intro p e s m args below meth c H locs ls hx hb hr hml hown hts hlk hmn hK hbs hW hS hl
  rcases hK.2.2.2.2.2.2.2 with h | ⟨t, h⟩
  · exact va_gets hx hb h hS hown (hts _ hlk') (fun _ h => h) hd (k1 hx hb hr hml hown hts hlk hmn hK hbs hW hS hl)
  · exact va_gets hx hb h hS hown (hts _ hlk') (fun _ h => h) hd (k2 t hx hb hr hml hown hts hlk hmn hK hbs hW hS hl)
theorem g_strL (hd : decode cc pc = .ok (.arraylength, 1)) (hp : pc + 1 = pc') (k : G l b cy D R y cc ret nL mc ms Z pc' lv (.int 6 :: st) kc ks sh n σ) : G l b cy D R y cc ret nL mc ms Z pc lv (.ref (D.2 100 1) :: st) kc ks sh n σ := by
  subst hp
  intro p e s m args below meth c H locs ls hx hb hr hml hown hts hlk hmn hK hbs hW hS hl
  exact va_tlen hx hb (hK.2.2.2.2.1.1 0 (by decide)).2.2.2 hS rfl hd (k hx hb hr hml hown hts hlk hmn hK hbs hW hS hl)
theorem g_strB {j : Nat} (hd : decode cc pc = .ok (.baload, 1)) (hp : pc + 1 = pc') (hj : j < 6) (k : G l b cy D R y cc ret nL mc ms Z pc' lv (.int ([82, 76, 114, 108, 83, 115].getD j 0) :: st) kc ks sh n σ) : G l b cy D R y cc ret nL mc ms Z pc lv (.int (nI j) :: .ref (D.2 100 1) :: st) kc ks sh n σ := by
  subst hp
  intro p e s m args below meth c H locs ls hx hb hr hml hown hts hlk hmn hK hbs hW hS hl
  exact va_tb hx hb (hK.2.2.2.2.1.1 0 (by decide)).2.2.2 hS (vp_in_nI hj (by decide)) (by rw [nI_clamp (by omega)]; rfl) hd (k hx hb hr hml hown hts hlk hmn hK hbs hW hS hl)
theorem g_cret {v : Int32} {ty : FieldType} (hd : decode cc pc = .ok (.ireturn, 1)) (hr' : ret = some ty) (hv : narrow ty (.int v) = .int v) (hc : kc = mc ∧ ks = ms) (hz : Z = (some (.int v), sh, n, σ)) : G l b cy D R y cc ret nL mc ms Z pc lv [.int v] kc ks sh n σ := by
  obtain ⟨rfl, rfl⟩ := hc
  subst hz
  intro p e s m args below meth c H locs ls hx hb hr hml hown hts hlk hmn hK hbs hW hS hl
  exact W.zret hx hb (hr.trans hr') hv (fun t ht hw => ⟨rfl, by rw [ht]; exact hW, hS.F ht⟩) hS.2.2 hd hlk
theorem g_callT {y' : MethodName} {cc' : ByteArray} {ret' : Option FieldType} {nL' na idx : Nat} {R' : Room} {As st0 : List Value} {v : Value} {sh' : Nat → Shp} {n' : Nat} {σ' : Sg} (hd : decode cc pc = .ok (.invokevirtual idx, 3)) (hp : pc + 3 = pc') (hL : VLk y.cls idx y' cc' nL' ret' na) (hM : Ev l b cy D R' y' cc' ret' nL' 0 0 (.ref (D.2 100 0) :: As) sh n σ (some v, sh', n', σ')) (hci : y'.cls = RJ0) (hR : RmO R R' nL') (hR0 : R'.cells = 0 ∧ R'.slots = 0) (hcs : kc ≤ R.cells ∧ ks ≤ R.slots) (hna : As.length = na) (hst : st0 = As.reverse ++ .ref (D.2 100 0) :: st) (hrm : (st.map fun v => v.category).sum ≤ 8) (g : G l b cy D R y cc ret nL mc ms Z pc' lv (v :: st) kc ks sh' n' σ') : G l b cy D R y cc ret nL mc ms Z pc lv st0 kc ks sh n σ := by
  subst hp
  intro p e s m args below meth c H locs ls hx hb hr hml hown hts hlk hmn hK hbs hW hS hl
  obtain ⟨h1, h2, h3, h4, h5, h6⟩ := hL
  have hrec := vk_recv hK.2.2.2.2.1 (i := 0) (by decide) hS
  rw [show "java/lang/String" = y'.cls from hci.symm] at hrec
  refine w_back (va_runV (As := As) (rest := st) (C := y'.cls) (n := na) ⟨hx, hb, hml, hown, hts⟩ hM ⟨callB_of na hts (gt_ws h5) rfl hR0.1 hR0.2 (hts _ h4) (hts _ h1) h6 hR, hts _ h2, hts _ h3⟩ ⟨px_blind, hrec, px_at hK hW hS⟩ rfl hna hl.1 hst (lv_room hrm) hd ⟨hcs.1, hcs.2⟩) hS (fun H1 locs1 hW1 hS1 => ?_)
  exact g hx hb hr hml hown hts hlk hmn hK hbs hW1 hS1 hl
end
theorem mJ0_492 : VLk RJ0 492 yJ0_isLatin1_aae02 cJ0_isLatin1_aae02 1 (Option.some Jvm.ClassFile.FieldType.boolean) 0 := ⟨gt_t it4 6 rfl rfl, gt_t it4 7 rfl rfl, gt_t it4 8 rfl rfl, gt_t it1 17 rfl rfl, gt_t it4 9 rfl rfl, by decide +kernel⟩
theorem mJ0_495 : SLk RJ0 495 yJ1_charAt_3b067 cJ1_charAt_3b067 2 (Option.some Jvm.ClassFile.FieldType.char) 2 := ⟨gt_t it4 12 rfl rfl, gt_t it4 13 rfl rfl, gt_t it1 18 rfl rfl, gt_t it4 14 rfl rfl, by decide +kernel⟩
theorem mJ1_9 : SLk RJ1 9 yJ0_checkIndex_df160 cJ0_checkIndex_df160 2 (Option.none : Option Jvm.ClassFile.FieldType) 2 := ⟨gt_t it4 15 rfl rfl, gt_t it4 16 rfl rfl, gt_t it1 17 rfl rfl, gt_t it4 17 rfl rfl, by decide +kernel⟩
theorem mJ0_1059 : SLk RJ0 1059 yJ3_checkIndex_8e157 cJ3_checkIndex_8e157 3 (Option.some Jvm.ClassFile.FieldType.int) 3 := ⟨gt_t it4 20 rfl rfl, gt_t it4 21 rfl rfl, gt_t it1 19 rfl rfl, gt_t it4 22 rfl rfl, by decide +kernel⟩
theorem mX10_246s : VLk RX10 246 yJ0_charAt_5068e cJ0_charAt_5068e 2 (Option.some Jvm.ClassFile.FieldType.char) 1 := ⟨gt_t it4 2 rfl rfl, gt_t it4 3 rfl rfl, gt_t it4 4 rfl rfl, gt_t it1 17 rfl rfl, gt_t it4 5 rfl rfl, by decide +kernel⟩
theorem nI_nn {j : Nat} (h : j < 6) : ¬ nI j < 0 := nI_pos (by omega)
theorem nI_l6 {j : Nat} (h : j < 6) : nI j < 6 := by
  have : j = 0 ∨ j = 1 ∨ j = 2 ∨ j = 3 ∨ j = 4 ∨ j = 5 := by omega
  rcases this with rfl | rfl | rfl | rfl | rfl | rfl <;> decide
set_option maxRecDepth 100000 in
theorem ev_J3_chk {l : Launch} {b : Nat} {cy : Nat → ClassId} {D : va_G} {d : Nat} {j : Nat} {v : Value} {σ : Sg} (hj : j < 6) (hv : v = .null ∨ ∃ t, v = .ref t) : Es l b cy D (d + 0) yJ3_checkIndex_8e157 cJ3_checkIndex_8e157 (Option.some Jvm.ClassFile.FieldType.int) 3 [.int (nI j), .int 6, v] σ (some (.int (nI j))) σ := by
  have key : ∀ lv : List (Nat × Value), G l b cy D (rm (d + 0)) yJ3_checkIndex_8e157 cJ3_checkIndex_8e157 (Option.some Jvm.ClassFile.FieldType.int) 3 0 0 (some (.int (nI j)), shF, NP, σ) 0 ((0, .int (nI j)) :: (1, .int 6) :: lv) [] 0 0 shF NP σ := by
    intro lv
    refine g_iload_n (pc' := 1) dJ3_checkIndex_8e157_0 rfl 0 rfl rfl ?_
    refine g_if_lt (pc' := 4) (tgt := 9) dJ3_checkIndex_8e157_1 rfl (by decide) (fun c => absurd c (nI_nn hj)) (fun _ => ?_)
    refine g_iload_n (pc' := 5) dJ3_checkIndex_8e157_4 rfl 0 rfl rfl ?_
    refine g_iload_n (pc' := 6) dJ3_checkIndex_8e157_5 rfl 1 rfl rfl ?_
    refine g_icmp_lt (pc' := 9) (tgt := 16) dJ3_checkIndex_8e157_6 rfl (by decide) (fun _ => ?_) (fun c => absurd (nI_l6 hj) c)
    refine g_iload_n (pc' := 17) dJ3_checkIndex_8e157_16 rfl 0 rfl rfl ?_
    exact g_iret dJ3_checkIndex_8e157_17 rfl ⟨rfl, rfl⟩ rfl
  rcases hv with rfl | ⟨t, rfl⟩
  · exact Ev.ofF (by decide +kernel) (Nat.le_of_ble_eq_true rfl) rfl (key _)
  · exact Ev.ofF (by decide +kernel) (Nat.le_of_ble_eq_true rfl) rfl (key _)
set_option maxRecDepth 100000 in
theorem ev_J0_chk {l : Launch} {b : Nat} {cy : Nat → ClassId} {D : va_G} {d : Nat} {j : Nat} {σ : Sg} (hj : j < 6) : Es l b cy D (d + 1) yJ0_checkIndex_df160 cJ0_checkIndex_df160 (Option.none : Option Jvm.ClassFile.FieldType) 2 [.int (nI j), .int 6] σ none σ := by
  refine Ev.ofF (by decide +kernel) (Nat.le_of_ble_eq_true rfl) rfl ?_
  refine g_iload_n (pc' := 1) dJ0_checkIndex_df160_0 rfl 0 rfl rfl ?_
  refine g_iload_n (pc' := 2) dJ0_checkIndex_df160_1 rfl 1 rfl rfl ?_
  have key : ∀ v : Value, (v = .null ∨ ∃ t, v = .ref t) → G l b cy D (rm (d + 1)) yJ0_checkIndex_df160 cJ0_checkIndex_df160 (Option.none : Option Jvm.ClassFile.FieldType) 2 0 0 (none, shF, NP, σ) 5 [(0, .int (nI j)), (1, .int 6)] [v, .int 6, .int (nI j)] 0 0 shF NP σ := by
    intro v hv
    refine g_callsr (pc' := 8) (st := []) dJ0_checkIndex_df160_5 rfl mJ0_1059 (ev_J3_chk (d := d) hj hv) (rm_ok (by omega) (by decide)) ⟨rfl, rfl⟩ ⟨Nat.zero_le _, Nat.zero_le _⟩ rfl rfl (Nat.le_of_ble_eq_true rfl) ?_
    refine g_pop (pc' := 9) dJ0_checkIndex_df160_8 rfl rfl ?_
    exact g_vret dJ0_checkIndex_df160_9 rfl ⟨rfl, rfl⟩ rfl
  exact g_getQ (pc' := 5) dJ0_checkIndex_df160_2 rfl (gt_t it4 18 rfl rfl) (key _ (Or.inl rfl)) (fun t => key _ (Or.inr ⟨t, rfl⟩))
/-- the letter at place j of the text -/
def lAt (j : Nat) : Int32 := [82, 76, 114, 108, 83, 115].getD j 0
theorem lAt_c {j : Nat} (h : j < 6) : ((lAt j &&& 255).toUInt32 % 65536).toInt32 = lAt j := by
  have : j = 0 ∨ j = 1 ∨ j = 2 ∨ j = 3 ∨ j = 4 ∨ j = 5 := by omega
  rcases this with rfl | rfl | rfl | rfl | rfl | rfl <;> decide
theorem lAt_n {j : Nat} (h : j < 6) : narrow .char (.int (lAt j)) = .int (lAt j) := by
  have : j = 0 ∨ j = 1 ∨ j = 2 ∨ j = 3 ∨ j = 4 ∨ j = 5 := by omega
  rcases this with rfl | rfl | rfl | rfl | rfl | rfl <;> rfl
set_option maxRecDepth 100000 in
theorem ev_J1_at {l : Launch} {b : Nat} {cy : Nat → ClassId} {D : va_G} {d : Nat} {j : Nat} {σ : Sg} (hj : j < 6) : Es l b cy D (d + 2) yJ1_charAt_3b067 cJ1_charAt_3b067 (Option.some Jvm.ClassFile.FieldType.char) 2 [.ref (D.2 100 1), .int (nI j)] σ (some (.int (lAt j))) σ := by
  refine Ev.ofF (by decide +kernel) (Nat.le_of_ble_eq_true rfl) rfl ?_
  refine g_iload_n (pc' := 1) dJ1_charAt_3b067_0 rfl 1 rfl rfl ?_
  refine g_aload_n (pc' := 2) dJ1_charAt_3b067_1 rfl 0 rfl rfl ?_
  refine g_strL (pc' := 3) dJ1_charAt_3b067_2 rfl ?_
  refine g_calls (pc' := 6) (st := []) dJ1_charAt_3b067_3 rfl mJ1_9 (ev_J0_chk (d := d) hj) (rm_ok (by omega) (by decide)) ⟨rfl, rfl⟩ ⟨Nat.zero_le _, Nat.zero_le _⟩ rfl rfl (Nat.le_of_ble_eq_true rfl) ?_
  refine g_aload_n (pc' := 7) dJ1_charAt_3b067_6 rfl 0 rfl rfl ?_
  refine g_iload_n (pc' := 8) dJ1_charAt_3b067_7 rfl 1 rfl rfl ?_
  refine g_strB (pc' := 9) dJ1_charAt_3b067_8 rfl hj ?_
  refine g_sipush (pc' := 12) (v := 255) dJ1_charAt_3b067_9 rfl (by decide) ?_
  refine g_iand (pc' := 13) dJ1_charAt_3b067_12 rfl ?_
  refine g_i2c (pc' := 14) dJ1_charAt_3b067_13 rfl ?_
  rw [show ((([82, 76, 114, 108, 83, 115].getD j 0 : Int32) &&& 255).toUInt32 % 65536).toInt32 = lAt j from lAt_c hj]
  exact g_cret dJ1_charAt_3b067_14 rfl (lAt_n hj) ⟨rfl, rfl⟩ rfl
set_option maxRecDepth 100000 in
theorem ev_J0_lat {l : Launch} {b : Nat} {cy : Nat → ClassId} {D : va_G} {d : Nat} {σ : Sg} : Es l b cy D (d + 0) yJ0_isLatin1_aae02 cJ0_isLatin1_aae02 (Option.some Jvm.ClassFile.FieldType.boolean) 1 [.ref (D.2 100 0)] σ (some (.int 1)) σ := by
  refine Ev.ofF (by decide +kernel) (Nat.le_of_ble_eq_true rfl) rfl ?_
  refine g_getZ (pc' := 3) dJ0_isLatin1_aae02_0 rfl (gt_t it4 10 rfl rfl) ?_
  refine g_if_eq (pc' := 6) (tgt := 17) dJ0_isLatin1_aae02_3 rfl (by decide) (fun c => absurd c (by decide)) (fun _ => ?_)
  refine g_aload_n (pc' := 7) dJ0_isLatin1_aae02_6 rfl 0 rfl rfl ?_
  refine g_strC (pc' := 10) dJ0_isLatin1_aae02_7 rfl (gt_t it6 45 rfl rfl) ?_
  refine g_if_ne (pc' := 13) (tgt := 17) dJ0_isLatin1_aae02_10 rfl (by decide) (fun c => absurd rfl c) (fun _ => ?_)
  refine g_iconst (pc' := 14) (v := 1) dJ0_isLatin1_aae02_13 rfl (by decide) ?_
  refine g_goto (tgt := 18) dJ0_isLatin1_aae02_14 (by decide) ?_
  exact g_zret dJ0_isLatin1_aae02_18 rfl (Or.inr rfl) ⟨rfl, rfl⟩ rfl
set_option maxRecDepth 100000 in
theorem ev_J0_at {l : Launch} {b : Nat} {cy : Nat → ClassId} {D : va_G} {d : Nat} {j : Nat} {σ : Sg} (hj : j < 6) : Es l b cy D (d + 3) yJ0_charAt_5068e cJ0_charAt_5068e (Option.some Jvm.ClassFile.FieldType.char) 2 [.ref (D.2 100 0), .int (nI j)] σ (some (.int (lAt j))) σ := by
  refine Ev.ofF (by decide +kernel) (Nat.le_of_ble_eq_true rfl) rfl ?_
  refine g_aload_n (pc' := 1) dJ0_charAt_5068e_0 rfl 0 rfl rfl ?_
  refine g_callT (pc' := 4) (st := []) dJ0_charAt_5068e_1 rfl mJ0_492 (ev_J0_lat (d := d)) rfl (rm_ok (by omega) (by decide)) ⟨rfl, rfl⟩ ⟨Nat.zero_le _, Nat.zero_le _⟩ rfl rfl (Nat.le_of_ble_eq_true rfl) ?_
  refine g_if_eq (pc' := 7) (tgt := 16) dJ0_charAt_5068e_4 rfl (by decide) (fun c => absurd c (by decide)) (fun _ => ?_)
  refine g_aload_n (pc' := 8) dJ0_charAt_5068e_7 rfl 0 rfl rfl ?_
  refine g_strV (pc' := 11) dJ0_charAt_5068e_8 rfl (gt_t it6 46 rfl rfl) ?_
  refine g_iload_n (pc' := 12) dJ0_charAt_5068e_11 rfl 1 rfl rfl ?_
  refine g_callsr (pc' := 15) (st := []) dJ0_charAt_5068e_12 rfl mJ0_495 (ev_J1_at (d := d) hj) (rm_ok (by omega) (by decide)) ⟨rfl, rfl⟩ ⟨Nat.zero_le _, Nat.zero_le _⟩ rfl rfl (Nat.le_of_ble_eq_true rfl) ?_
  exact g_cret dJ0_charAt_5068e_15 rfl (lAt_n hj) ⟨rfl, rfl⟩ rfl
