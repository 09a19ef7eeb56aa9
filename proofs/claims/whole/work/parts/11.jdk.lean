theorem lpos_ne {x : Int64} (h : 0 < x) : ¬ x = 0 := fun q => by rw [q] at h; exact absurd h (by decide)
set_option maxRecDepth 20000 in
theorem Ev.ofF {l : Launch} {b : Nat} {cy : Nat → ClassId} {D : va_G} {R : Room} {y : MethodName} {cc : ByteArray} {ret : Option FieldType} {nL mc ms : Nat} {av : List Value} {lv : List (Nat × Value)} {sh : Nat → Shp} {n : Nat} {σ : Sg} {Z : Zt} (hy : plainFor y = true) (hav : (lg_sl av).length ≤ nL) (hlv : lv_args 0 av = lv)
    (g : G l b cy D R y cc ret nL mc ms Z 0 lv [] 0 0 sh n σ) : Ev l b cy D R y cc ret nL mc ms av sh n σ Z := by
  unfold Ev Met
  refine MetFree.of_bodySF (code := cc) (maxLocals := nL) (ret := ret) hy ?_ ?_
  · intro args s m h hn
    obtain ⟨meth, c, h1, h2, h3, h4, h5, h6, -, -⟩ := Cond.code_spec hn (atoms_spec (ws := Cond.code y cc nL ret :: gt) h _ List.mem_cons_self)
    exact ⟨meth, c, h1, h2, h3, h4, h5, h6⟩
  · intro p e s m args below meth c s₁ B hml hv _
    have hh0 : s₁.heap = s.heap := by rw [B.state]; rfl
    obtain ⟨rfl, hK, hW⟩ := hv
    have hts := atoms_spec (ws := Cond.code y cc nL ret :: gt) B.pre
    have hl := lv_entry av (n := nL) hav
    rw [hlv] at hl
    have K : W p l e R s m av.toArray below meth c s.heap [] 0 0 (MQ below (Qx b cy D Z) av.toArray s mc ms (fun q => b ≤ q)) (entryFrame m av.toArray nL) := by
      rw [lg_entry_eq]
      generalize (lg_sl av ++ List.replicate (nL - (lg_sl av).length) Slot.unset).toArray = ls at hl ⊢
      exact g B.exec B.bytes B.returns hml (findClass_of_methodNamed B.named) (fun w hw => hts w (List.mem_cons_of_mem _ hw)) B.notSynchronized (name_of_methodNamed B.named B.method).1 hK hW.le hW va_S.rf hl
    obtain ⟨t, a1, o, b1, b2, b3⟩ := K s₁ hh0 (Stand.of_body B)
    exact ⟨t, o, a1, b1, b2, ⟨b3.1, b3.2⟩⟩
def rJ9_abs_067f4  (x1 : Int64) (σ : Sg) : Int64 := if (x1 : Int64) < 0 then -x1 else x1
set_option maxRecDepth 100000 in
set_option maxHeartbeats 4000000 in
theorem ev_J9_abs_067f4 {l : Launch} {b : Nat} {cy : Nat → ClassId} {D : va_G} {d : Nat}  {x1 : Int64} {σ : Sg}   : Es l b cy D (d + 0) yJ9_abs_067f4 cJ9_abs_067f4 (Option.some Jvm.ClassFile.FieldType.long) 2 [.long (x1)] σ (some (.long (rJ9_abs_067f4 x1 σ))) σ := by
  refine Ev.ofF (by decide +kernel) (Nat.le_of_ble_eq_true rfl) rfl ?_
  refine g_lload_n (pc' := 1) dJ9_abs_067f4_0 rfl 0 rfl rfl ?_
  refine g_lconst (pc' := 2) (v := 0) dJ9_abs_067f4_1 rfl (by decide) ?_
  refine g_lif_ge (pc' := 6) (tgt := 11) dJ9_abs_067f4_2 dJ9_abs_067f4_3 rfl (by decide) (fun (c1 : ¬ (x1 : Int64) < 0) => ?_) (fun (c1 : (x1 : Int64) < 0) => ?_)
  · refine g_lload_n (pc' := 12) dJ9_abs_067f4_11 rfl 0 rfl rfl ?_
    exact g_lret dJ9_abs_067f4_12 rfl ⟨rfl, rfl⟩ (by simp only [rJ9_abs_067f4, if_neg c1, bI_t, bI_f])
  · refine g_lload_n (pc' := 7) dJ9_abs_067f4_6 rfl 0 rfl rfl ?_
    refine g_lneg (pc' := 8) dJ9_abs_067f4_7 rfl ?_
    refine g_goto (tgt := 12) dJ9_abs_067f4_8 (by decide) ?_
    exact g_lret dJ9_abs_067f4_12 rfl ⟨rfl, rfl⟩ (by simp only [rJ9_abs_067f4, if_pos c1, bI_t, bI_f])
def rJ9_min_7cf53  (x1 : Int32) (x2 : Int32) (σ : Sg) : Int32 := if (x2 : Int32) < x1 then x2 else x1
set_option maxRecDepth 100000 in
set_option maxHeartbeats 4000000 in
theorem ev_J9_min_7cf53 {l : Launch} {b : Nat} {cy : Nat → ClassId} {D : va_G} {d : Nat}  {x1 : Int32} {x2 : Int32} {σ : Sg}   : Es l b cy D (d + 0) yJ9_min_7cf53 cJ9_min_7cf53 (Option.some Jvm.ClassFile.FieldType.int) 2 [.int (x1), .int (x2)] σ (some (.int (rJ9_min_7cf53 x1 x2 σ))) σ := by
  refine Ev.ofF (by decide +kernel) (Nat.le_of_ble_eq_true rfl) rfl ?_
  refine g_iload_n (pc' := 1) dJ9_min_7cf53_0 rfl 0 rfl rfl ?_
  refine g_iload_n (pc' := 2) dJ9_min_7cf53_1 rfl 1 rfl rfl ?_
  refine g_icmp_gt (pc' := 5) (tgt := 9) dJ9_min_7cf53_2 rfl (by decide) (fun (c1 : (x2 : Int32) < x1) => ?_) (fun (c1 : ¬ (x2 : Int32) < x1) => ?_)
  · refine g_iload_n (pc' := 10) dJ9_min_7cf53_9 rfl 1 rfl rfl ?_
    exact g_iret dJ9_min_7cf53_10 rfl ⟨rfl, rfl⟩ (by simp only [rJ9_min_7cf53, if_pos c1, bI_t, bI_f])
  · refine g_iload_n (pc' := 6) dJ9_min_7cf53_5 rfl 0 rfl rfl ?_
    refine g_goto (tgt := 10) dJ9_min_7cf53_6 (by decide) ?_
    exact g_iret dJ9_min_7cf53_10 rfl ⟨rfl, rfl⟩ (by simp only [rJ9_min_7cf53, if_neg c1, bI_t, bI_f])
def rJ9_min_f86c9  (x1 : Int64) (x2 : Int64) (σ : Sg) : Int64 := if (x2 : Int64) < x1 then x2 else x1
set_option maxRecDepth 100000 in
set_option maxHeartbeats 4000000 in
theorem ev_J9_min_f86c9 {l : Launch} {b : Nat} {cy : Nat → ClassId} {D : va_G} {d : Nat}  {x1 : Int64} {x2 : Int64} {σ : Sg}   : Es l b cy D (d + 0) yJ9_min_f86c9 cJ9_min_f86c9 (Option.some Jvm.ClassFile.FieldType.long) 4 [.long (x1), .long (x2)] σ (some (.long (rJ9_min_f86c9 x1 x2 σ))) σ := by
  refine Ev.ofF (by decide +kernel) (Nat.le_of_ble_eq_true rfl) rfl ?_
  refine g_lload_n (pc' := 1) dJ9_min_f86c9_0 rfl 0 rfl rfl ?_
  refine g_lload_n (pc' := 2) dJ9_min_f86c9_1 rfl 1 rfl rfl ?_
  refine g_lif_gt (pc' := 6) (tgt := 10) dJ9_min_f86c9_2 dJ9_min_f86c9_3 rfl (by decide) (fun (c1 : (x2 : Int64) < x1) => ?_) (fun (c1 : ¬ (x2 : Int64) < x1) => ?_)
  · refine g_lload_n (pc' := 11) dJ9_min_f86c9_10 rfl 1 rfl rfl ?_
    exact g_lret dJ9_min_f86c9_11 rfl ⟨rfl, rfl⟩ (by simp only [rJ9_min_f86c9, if_pos c1, bI_t, bI_f])
  · refine g_lload_n (pc' := 7) dJ9_min_f86c9_6 rfl 0 rfl rfl ?_
    refine g_goto (tgt := 11) dJ9_min_f86c9_7 (by decide) ?_
    exact g_lret dJ9_min_f86c9_11 rfl ⟨rfl, rfl⟩ (by simp only [rJ9_min_f86c9, if_neg c1, bI_t, bI_f])
def rJ13_signum_95d88  (x1 : Int64) (σ : Sg) : Int32 := ((x1 >>> ((63 : Int32).toInt64 &&& 63)) ||| (((-x1 : Int64).toUInt64 >>> ((63 : Int32).toInt64.toUInt64 &&& Int64.toUInt64 63)).toInt64) : Int64).toInt32
set_option maxRecDepth 100000 in
set_option maxHeartbeats 4000000 in
theorem ev_J13_signum_95d88 {l : Launch} {b : Nat} {cy : Nat → ClassId} {D : va_G} {d : Nat}  {x1 : Int64} {σ : Sg}   : Es l b cy D (d + 0) yJ13_signum_95d88 cJ13_signum_95d88 (Option.some Jvm.ClassFile.FieldType.int) 2 [.long (x1)] σ (some (.int (rJ13_signum_95d88 x1 σ))) σ := by
  refine Ev.ofF (by decide +kernel) (Nat.le_of_ble_eq_true rfl) rfl ?_
  refine g_lload_n (pc' := 1) dJ13_signum_95d88_0 rfl 0 rfl rfl ?_
  refine g_bipush (pc' := 3) (v := 63) dJ13_signum_95d88_1 rfl (by decide) ?_
  refine g_lshr (pc' := 4) dJ13_signum_95d88_3 rfl ?_
  refine g_lload_n (pc' := 5) dJ13_signum_95d88_4 rfl 0 rfl rfl ?_
  refine g_lneg (pc' := 6) dJ13_signum_95d88_5 rfl ?_
  refine g_bipush (pc' := 8) (v := 63) dJ13_signum_95d88_6 rfl (by decide) ?_
  refine g_lushr (pc' := 9) dJ13_signum_95d88_8 rfl ?_
  refine g_lor (pc' := 10) dJ13_signum_95d88_9 rfl ?_
  refine g_l2i (pc' := 11) dJ13_signum_95d88_10 rfl ?_
  exact g_iret dJ13_signum_95d88_11 rfl ⟨rfl, rfl⟩ rfl
def rJ6_bitCount_0f7a4  (x1 : Int32) (σ : Sg) : Int32 := (((((((x1 - ((((x1 : Int32).toUInt32 >>> ((1 : Int32).toUInt32 &&& Int32.toUInt32 31)).toInt32) &&& 1431655765)) &&& 858993459) + ((((x1 - ((((x1 : Int32).toUInt32 >>> ((1 : Int32).toUInt32 &&& Int32.toUInt32 31)).toInt32) &&& 1431655765) : Int32).toUInt32 >>> ((2 : Int32).toUInt32 &&& Int32.toUInt32 31)).toInt32) &&& 858993459)) + (((((x1 - ((((x1 : Int32).toUInt32 >>> ((1 : Int32).toUInt32 &&& Int32.toUInt32 31)).toInt32) &&& 1431655765)) &&& 858993459) + ((((x1 - ((((x1 : Int32).toUInt32 >>> ((1 : Int32).toUInt32 &&& Int32.toUInt32 31)).toInt32) &&& 1431655765) : Int32).toUInt32 >>> ((2 : Int32).toUInt32 &&& Int32.toUInt32 31)).toInt32) &&& 858993459) : Int32).toUInt32 >>> ((4 : Int32).toUInt32 &&& Int32.toUInt32 31)).toInt32)) &&& 252645135) + (((((((x1 - ((((x1 : Int32).toUInt32 >>> ((1 : Int32).toUInt32 &&& Int32.toUInt32 31)).toInt32) &&& 1431655765)) &&& 858993459) + ((((x1 - ((((x1 : Int32).toUInt32 >>> ((1 : Int32).toUInt32 &&& Int32.toUInt32 31)).toInt32) &&& 1431655765) : Int32).toUInt32 >>> ((2 : Int32).toUInt32 &&& Int32.toUInt32 31)).toInt32) &&& 858993459)) + (((((x1 - ((((x1 : Int32).toUInt32 >>> ((1 : Int32).toUInt32 &&& Int32.toUInt32 31)).toInt32) &&& 1431655765)) &&& 858993459) + ((((x1 - ((((x1 : Int32).toUInt32 >>> ((1 : Int32).toUInt32 &&& Int32.toUInt32 31)).toInt32) &&& 1431655765) : Int32).toUInt32 >>> ((2 : Int32).toUInt32 &&& Int32.toUInt32 31)).toInt32) &&& 858993459) : Int32).toUInt32 >>> ((4 : Int32).toUInt32 &&& Int32.toUInt32 31)).toInt32)) &&& 252645135 : Int32).toUInt32 >>> ((8 : Int32).toUInt32 &&& Int32.toUInt32 31)).toInt32)) + ((((((((x1 - ((((x1 : Int32).toUInt32 >>> ((1 : Int32).toUInt32 &&& Int32.toUInt32 31)).toInt32) &&& 1431655765)) &&& 858993459) + ((((x1 - ((((x1 : Int32).toUInt32 >>> ((1 : Int32).toUInt32 &&& Int32.toUInt32 31)).toInt32) &&& 1431655765) : Int32).toUInt32 >>> ((2 : Int32).toUInt32 &&& Int32.toUInt32 31)).toInt32) &&& 858993459)) + (((((x1 - ((((x1 : Int32).toUInt32 >>> ((1 : Int32).toUInt32 &&& Int32.toUInt32 31)).toInt32) &&& 1431655765)) &&& 858993459) + ((((x1 - ((((x1 : Int32).toUInt32 >>> ((1 : Int32).toUInt32 &&& Int32.toUInt32 31)).toInt32) &&& 1431655765) : Int32).toUInt32 >>> ((2 : Int32).toUInt32 &&& Int32.toUInt32 31)).toInt32) &&& 858993459) : Int32).toUInt32 >>> ((4 : Int32).toUInt32 &&& Int32.toUInt32 31)).toInt32)) &&& 252645135) + (((((((x1 - ((((x1 : Int32).toUInt32 >>> ((1 : Int32).toUInt32 &&& Int32.toUInt32 31)).toInt32) &&& 1431655765)) &&& 858993459) + ((((x1 - ((((x1 : Int32).toUInt32 >>> ((1 : Int32).toUInt32 &&& Int32.toUInt32 31)).toInt32) &&& 1431655765) : Int32).toUInt32 >>> ((2 : Int32).toUInt32 &&& Int32.toUInt32 31)).toInt32) &&& 858993459)) + (((((x1 - ((((x1 : Int32).toUInt32 >>> ((1 : Int32).toUInt32 &&& Int32.toUInt32 31)).toInt32) &&& 1431655765)) &&& 858993459) + ((((x1 - ((((x1 : Int32).toUInt32 >>> ((1 : Int32).toUInt32 &&& Int32.toUInt32 31)).toInt32) &&& 1431655765) : Int32).toUInt32 >>> ((2 : Int32).toUInt32 &&& Int32.toUInt32 31)).toInt32) &&& 858993459) : Int32).toUInt32 >>> ((4 : Int32).toUInt32 &&& Int32.toUInt32 31)).toInt32)) &&& 252645135 : Int32).toUInt32 >>> ((8 : Int32).toUInt32 &&& Int32.toUInt32 31)).toInt32) : Int32).toUInt32 >>> ((16 : Int32).toUInt32 &&& Int32.toUInt32 31)).toInt32)) &&& 63
set_option maxRecDepth 100000 in
set_option maxHeartbeats 4000000 in
theorem ev_J6_bitCount_0f7a4 {l : Launch} {b : Nat} {cy : Nat → ClassId} {D : va_G} {d : Nat}  {x1 : Int32} {σ : Sg}   : Es l b cy D (d + 0) yJ6_bitCount_0f7a4 cJ6_bitCount_0f7a4 (Option.some Jvm.ClassFile.FieldType.int) 1 [.int (x1)] σ (some (.int (rJ6_bitCount_0f7a4 x1 σ))) σ := by
  refine Ev.ofF (by decide +kernel) (Nat.le_of_ble_eq_true rfl) rfl ?_
  refine g_iload_n (pc' := 1) dJ6_bitCount_0f7a4_0 rfl 0 rfl rfl ?_
  refine g_iload_n (pc' := 2) dJ6_bitCount_0f7a4_1 rfl 0 rfl rfl ?_
  refine g_iconst (pc' := 3) (v := 1) dJ6_bitCount_0f7a4_2 rfl (by decide) ?_
  refine g_iushr (pc' := 4) dJ6_bitCount_0f7a4_3 rfl ?_
  refine g_ldcw (pc' := 7) dJ6_bitCount_0f7a4_4 rfl kJ6_265 ?_
  refine g_iand (pc' := 8) dJ6_bitCount_0f7a4_7 rfl ?_
  refine g_isub (pc' := 9) dJ6_bitCount_0f7a4_8 rfl ?_
  refine g_istore_n (pc' := 10) (j := 0) (lv' := [(0, .int (x1 - ((((x1 : Int32).toUInt32 >>> ((1 : Int32).toUInt32 &&& Int32.toUInt32 31)).toInt32) &&& 1431655765)))]) dJ6_bitCount_0f7a4_9 rfl rfl (by decide) rfl ?_
  refine g_iload_n (pc' := 11) dJ6_bitCount_0f7a4_10 rfl 0 rfl rfl ?_
  refine g_ldcw (pc' := 14) dJ6_bitCount_0f7a4_11 rfl kJ6_266 ?_
  refine g_iand (pc' := 15) dJ6_bitCount_0f7a4_14 rfl ?_
  refine g_iload_n (pc' := 16) dJ6_bitCount_0f7a4_15 rfl 0 rfl rfl ?_
  refine g_iconst (pc' := 17) (v := 2) dJ6_bitCount_0f7a4_16 rfl (by decide) ?_
  refine g_iushr (pc' := 18) dJ6_bitCount_0f7a4_17 rfl ?_
  refine g_ldcw (pc' := 21) dJ6_bitCount_0f7a4_18 rfl kJ6_266 ?_
  refine g_iand (pc' := 22) dJ6_bitCount_0f7a4_21 rfl ?_
  refine g_iadd (pc' := 23) dJ6_bitCount_0f7a4_22 rfl ?_
  refine g_istore_n (pc' := 24) (j := 0) (lv' := [(0, .int (((x1 - ((((x1 : Int32).toUInt32 >>> ((1 : Int32).toUInt32 &&& Int32.toUInt32 31)).toInt32) &&& 1431655765)) &&& 858993459) + ((((x1 - ((((x1 : Int32).toUInt32 >>> ((1 : Int32).toUInt32 &&& Int32.toUInt32 31)).toInt32) &&& 1431655765) : Int32).toUInt32 >>> ((2 : Int32).toUInt32 &&& Int32.toUInt32 31)).toInt32) &&& 858993459)))]) dJ6_bitCount_0f7a4_23 rfl rfl (by decide) rfl ?_
  refine g_iload_n (pc' := 25) dJ6_bitCount_0f7a4_24 rfl 0 rfl rfl ?_
  refine g_iload_n (pc' := 26) dJ6_bitCount_0f7a4_25 rfl 0 rfl rfl ?_
  refine g_iconst (pc' := 27) (v := 4) dJ6_bitCount_0f7a4_26 rfl (by decide) ?_
  refine g_iushr (pc' := 28) dJ6_bitCount_0f7a4_27 rfl ?_
  refine g_iadd (pc' := 29) dJ6_bitCount_0f7a4_28 rfl ?_
  refine g_ldcw (pc' := 32) dJ6_bitCount_0f7a4_29 rfl kJ6_267 ?_
  refine g_iand (pc' := 33) dJ6_bitCount_0f7a4_32 rfl ?_
  refine g_istore_n (pc' := 34) (j := 0) (lv' := [(0, .int (((((x1 - ((((x1 : Int32).toUInt32 >>> ((1 : Int32).toUInt32 &&& Int32.toUInt32 31)).toInt32) &&& 1431655765)) &&& 858993459) + ((((x1 - ((((x1 : Int32).toUInt32 >>> ((1 : Int32).toUInt32 &&& Int32.toUInt32 31)).toInt32) &&& 1431655765) : Int32).toUInt32 >>> ((2 : Int32).toUInt32 &&& Int32.toUInt32 31)).toInt32) &&& 858993459)) + (((((x1 - ((((x1 : Int32).toUInt32 >>> ((1 : Int32).toUInt32 &&& Int32.toUInt32 31)).toInt32) &&& 1431655765)) &&& 858993459) + ((((x1 - ((((x1 : Int32).toUInt32 >>> ((1 : Int32).toUInt32 &&& Int32.toUInt32 31)).toInt32) &&& 1431655765) : Int32).toUInt32 >>> ((2 : Int32).toUInt32 &&& Int32.toUInt32 31)).toInt32) &&& 858993459) : Int32).toUInt32 >>> ((4 : Int32).toUInt32 &&& Int32.toUInt32 31)).toInt32)) &&& 252645135))]) dJ6_bitCount_0f7a4_33 rfl rfl (by decide) rfl ?_
  refine g_iload_n (pc' := 35) dJ6_bitCount_0f7a4_34 rfl 0 rfl rfl ?_
  refine g_iload_n (pc' := 36) dJ6_bitCount_0f7a4_35 rfl 0 rfl rfl ?_
  refine g_bipush (pc' := 38) (v := 8) dJ6_bitCount_0f7a4_36 rfl (by decide) ?_
  refine g_iushr (pc' := 39) dJ6_bitCount_0f7a4_38 rfl ?_
  refine g_iadd (pc' := 40) dJ6_bitCount_0f7a4_39 rfl ?_
  refine g_istore_n (pc' := 41) (j := 0) (lv' := [(0, .int ((((((x1 - ((((x1 : Int32).toUInt32 >>> ((1 : Int32).toUInt32 &&& Int32.toUInt32 31)).toInt32) &&& 1431655765)) &&& 858993459) + ((((x1 - ((((x1 : Int32).toUInt32 >>> ((1 : Int32).toUInt32 &&& Int32.toUInt32 31)).toInt32) &&& 1431655765) : Int32).toUInt32 >>> ((2 : Int32).toUInt32 &&& Int32.toUInt32 31)).toInt32) &&& 858993459)) + (((((x1 - ((((x1 : Int32).toUInt32 >>> ((1 : Int32).toUInt32 &&& Int32.toUInt32 31)).toInt32) &&& 1431655765)) &&& 858993459) + ((((x1 - ((((x1 : Int32).toUInt32 >>> ((1 : Int32).toUInt32 &&& Int32.toUInt32 31)).toInt32) &&& 1431655765) : Int32).toUInt32 >>> ((2 : Int32).toUInt32 &&& Int32.toUInt32 31)).toInt32) &&& 858993459) : Int32).toUInt32 >>> ((4 : Int32).toUInt32 &&& Int32.toUInt32 31)).toInt32)) &&& 252645135) + (((((((x1 - ((((x1 : Int32).toUInt32 >>> ((1 : Int32).toUInt32 &&& Int32.toUInt32 31)).toInt32) &&& 1431655765)) &&& 858993459) + ((((x1 - ((((x1 : Int32).toUInt32 >>> ((1 : Int32).toUInt32 &&& Int32.toUInt32 31)).toInt32) &&& 1431655765) : Int32).toUInt32 >>> ((2 : Int32).toUInt32 &&& Int32.toUInt32 31)).toInt32) &&& 858993459)) + (((((x1 - ((((x1 : Int32).toUInt32 >>> ((1 : Int32).toUInt32 &&& Int32.toUInt32 31)).toInt32) &&& 1431655765)) &&& 858993459) + ((((x1 - ((((x1 : Int32).toUInt32 >>> ((1 : Int32).toUInt32 &&& Int32.toUInt32 31)).toInt32) &&& 1431655765) : Int32).toUInt32 >>> ((2 : Int32).toUInt32 &&& Int32.toUInt32 31)).toInt32) &&& 858993459) : Int32).toUInt32 >>> ((4 : Int32).toUInt32 &&& Int32.toUInt32 31)).toInt32)) &&& 252645135 : Int32).toUInt32 >>> ((8 : Int32).toUInt32 &&& Int32.toUInt32 31)).toInt32)))]) dJ6_bitCount_0f7a4_40 rfl rfl (by decide) rfl ?_
  refine g_iload_n (pc' := 42) dJ6_bitCount_0f7a4_41 rfl 0 rfl rfl ?_
  refine g_iload_n (pc' := 43) dJ6_bitCount_0f7a4_42 rfl 0 rfl rfl ?_
  refine g_bipush (pc' := 45) (v := 16) dJ6_bitCount_0f7a4_43 rfl (by decide) ?_
  refine g_iushr (pc' := 46) dJ6_bitCount_0f7a4_45 rfl ?_
  refine g_iadd (pc' := 47) dJ6_bitCount_0f7a4_46 rfl ?_
  refine g_istore_n (pc' := 48) (j := 0) (lv' := [(0, .int (((((((x1 - ((((x1 : Int32).toUInt32 >>> ((1 : Int32).toUInt32 &&& Int32.toUInt32 31)).toInt32) &&& 1431655765)) &&& 858993459) + ((((x1 - ((((x1 : Int32).toUInt32 >>> ((1 : Int32).toUInt32 &&& Int32.toUInt32 31)).toInt32) &&& 1431655765) : Int32).toUInt32 >>> ((2 : Int32).toUInt32 &&& Int32.toUInt32 31)).toInt32) &&& 858993459)) + (((((x1 - ((((x1 : Int32).toUInt32 >>> ((1 : Int32).toUInt32 &&& Int32.toUInt32 31)).toInt32) &&& 1431655765)) &&& 858993459) + ((((x1 - ((((x1 : Int32).toUInt32 >>> ((1 : Int32).toUInt32 &&& Int32.toUInt32 31)).toInt32) &&& 1431655765) : Int32).toUInt32 >>> ((2 : Int32).toUInt32 &&& Int32.toUInt32 31)).toInt32) &&& 858993459) : Int32).toUInt32 >>> ((4 : Int32).toUInt32 &&& Int32.toUInt32 31)).toInt32)) &&& 252645135) + (((((((x1 - ((((x1 : Int32).toUInt32 >>> ((1 : Int32).toUInt32 &&& Int32.toUInt32 31)).toInt32) &&& 1431655765)) &&& 858993459) + ((((x1 - ((((x1 : Int32).toUInt32 >>> ((1 : Int32).toUInt32 &&& Int32.toUInt32 31)).toInt32) &&& 1431655765) : Int32).toUInt32 >>> ((2 : Int32).toUInt32 &&& Int32.toUInt32 31)).toInt32) &&& 858993459)) + (((((x1 - ((((x1 : Int32).toUInt32 >>> ((1 : Int32).toUInt32 &&& Int32.toUInt32 31)).toInt32) &&& 1431655765)) &&& 858993459) + ((((x1 - ((((x1 : Int32).toUInt32 >>> ((1 : Int32).toUInt32 &&& Int32.toUInt32 31)).toInt32) &&& 1431655765) : Int32).toUInt32 >>> ((2 : Int32).toUInt32 &&& Int32.toUInt32 31)).toInt32) &&& 858993459) : Int32).toUInt32 >>> ((4 : Int32).toUInt32 &&& Int32.toUInt32 31)).toInt32)) &&& 252645135 : Int32).toUInt32 >>> ((8 : Int32).toUInt32 &&& Int32.toUInt32 31)).toInt32)) + ((((((((x1 - ((((x1 : Int32).toUInt32 >>> ((1 : Int32).toUInt32 &&& Int32.toUInt32 31)).toInt32) &&& 1431655765)) &&& 858993459) + ((((x1 - ((((x1 : Int32).toUInt32 >>> ((1 : Int32).toUInt32 &&& Int32.toUInt32 31)).toInt32) &&& 1431655765) : Int32).toUInt32 >>> ((2 : Int32).toUInt32 &&& Int32.toUInt32 31)).toInt32) &&& 858993459)) + (((((x1 - ((((x1 : Int32).toUInt32 >>> ((1 : Int32).toUInt32 &&& Int32.toUInt32 31)).toInt32) &&& 1431655765)) &&& 858993459) + ((((x1 - ((((x1 : Int32).toUInt32 >>> ((1 : Int32).toUInt32 &&& Int32.toUInt32 31)).toInt32) &&& 1431655765) : Int32).toUInt32 >>> ((2 : Int32).toUInt32 &&& Int32.toUInt32 31)).toInt32) &&& 858993459) : Int32).toUInt32 >>> ((4 : Int32).toUInt32 &&& Int32.toUInt32 31)).toInt32)) &&& 252645135) + (((((((x1 - ((((x1 : Int32).toUInt32 >>> ((1 : Int32).toUInt32 &&& Int32.toUInt32 31)).toInt32) &&& 1431655765)) &&& 858993459) + ((((x1 - ((((x1 : Int32).toUInt32 >>> ((1 : Int32).toUInt32 &&& Int32.toUInt32 31)).toInt32) &&& 1431655765) : Int32).toUInt32 >>> ((2 : Int32).toUInt32 &&& Int32.toUInt32 31)).toInt32) &&& 858993459)) + (((((x1 - ((((x1 : Int32).toUInt32 >>> ((1 : Int32).toUInt32 &&& Int32.toUInt32 31)).toInt32) &&& 1431655765)) &&& 858993459) + ((((x1 - ((((x1 : Int32).toUInt32 >>> ((1 : Int32).toUInt32 &&& Int32.toUInt32 31)).toInt32) &&& 1431655765) : Int32).toUInt32 >>> ((2 : Int32).toUInt32 &&& Int32.toUInt32 31)).toInt32) &&& 858993459) : Int32).toUInt32 >>> ((4 : Int32).toUInt32 &&& Int32.toUInt32 31)).toInt32)) &&& 252645135 : Int32).toUInt32 >>> ((8 : Int32).toUInt32 &&& Int32.toUInt32 31)).toInt32) : Int32).toUInt32 >>> ((16 : Int32).toUInt32 &&& Int32.toUInt32 31)).toInt32)))]) dJ6_bitCount_0f7a4_47 rfl rfl (by decide) rfl ?_
  refine g_iload_n (pc' := 49) dJ6_bitCount_0f7a4_48 rfl 0 rfl rfl ?_
  refine g_bipush (pc' := 51) (v := 63) dJ6_bitCount_0f7a4_49 rfl (by decide) ?_
  refine g_iand (pc' := 52) dJ6_bitCount_0f7a4_51 rfl ?_
  exact g_iret dJ6_bitCount_0f7a4_52 rfl ⟨rfl, rfl⟩ rfl
def rJ6_numberOfTrailingZeros_0f7a4  (x1 : Int32) (σ : Sg) : Int32 := if 0 < ((x1 ^^^ (-1)) &&& (x1 - 1) : Int32) then if ((x1 ^^^ (-1)) &&& (x1 - 1) : Int32) ≤ 65536 then if ((x1 ^^^ (-1)) &&& (x1 - 1) : Int32) ≤ 256 then if ((x1 ^^^ (-1)) &&& (x1 - 1) : Int32) ≤ 16 then if ((x1 ^^^ (-1)) &&& (x1 - 1) : Int32) ≤ 4 then 1 + ((((x1 ^^^ (-1)) &&& (x1 - 1) : Int32).toUInt32 >>> ((1 : Int32).toUInt32 &&& Int32.toUInt32 31)).toInt32) else (1 + 2) + ((((((x1 ^^^ (-1)) &&& (x1 - 1) : Int32).toUInt32 >>> ((2 : Int32).toUInt32 &&& Int32.toUInt32 31)).toInt32 : Int32).toUInt32 >>> ((1 : Int32).toUInt32 &&& Int32.toUInt32 31)).toInt32) else if ((((x1 ^^^ (-1)) &&& (x1 - 1) : Int32).toUInt32 >>> ((4 : Int32).toUInt32 &&& Int32.toUInt32 31)).toInt32 : Int32) ≤ 4 then (1 + 4) + ((((((x1 ^^^ (-1)) &&& (x1 - 1) : Int32).toUInt32 >>> ((4 : Int32).toUInt32 &&& Int32.toUInt32 31)).toInt32 : Int32).toUInt32 >>> ((1 : Int32).toUInt32 &&& Int32.toUInt32 31)).toInt32) else ((1 + 4) + 2) + ((((((((x1 ^^^ (-1)) &&& (x1 - 1) : Int32).toUInt32 >>> ((4 : Int32).toUInt32 &&& Int32.toUInt32 31)).toInt32 : Int32).toUInt32 >>> ((2 : Int32).toUInt32 &&& Int32.toUInt32 31)).toInt32 : Int32).toUInt32 >>> ((1 : Int32).toUInt32 &&& Int32.toUInt32 31)).toInt32) else if ((((x1 ^^^ (-1)) &&& (x1 - 1) : Int32).toUInt32 >>> ((8 : Int32).toUInt32 &&& Int32.toUInt32 31)).toInt32 : Int32) ≤ 16 then if ((((x1 ^^^ (-1)) &&& (x1 - 1) : Int32).toUInt32 >>> ((8 : Int32).toUInt32 &&& Int32.toUInt32 31)).toInt32 : Int32) ≤ 4 then (1 + 8) + ((((((x1 ^^^ (-1)) &&& (x1 - 1) : Int32).toUInt32 >>> ((8 : Int32).toUInt32 &&& Int32.toUInt32 31)).toInt32 : Int32).toUInt32 >>> ((1 : Int32).toUInt32 &&& Int32.toUInt32 31)).toInt32) else ((1 + 8) + 2) + ((((((((x1 ^^^ (-1)) &&& (x1 - 1) : Int32).toUInt32 >>> ((8 : Int32).toUInt32 &&& Int32.toUInt32 31)).toInt32 : Int32).toUInt32 >>> ((2 : Int32).toUInt32 &&& Int32.toUInt32 31)).toInt32 : Int32).toUInt32 >>> ((1 : Int32).toUInt32 &&& Int32.toUInt32 31)).toInt32) else if ((((((x1 ^^^ (-1)) &&& (x1 - 1) : Int32).toUInt32 >>> ((8 : Int32).toUInt32 &&& Int32.toUInt32 31)).toInt32 : Int32).toUInt32 >>> ((4 : Int32).toUInt32 &&& Int32.toUInt32 31)).toInt32 : Int32) ≤ 4 then ((1 + 8) + 4) + ((((((((x1 ^^^ (-1)) &&& (x1 - 1) : Int32).toUInt32 >>> ((8 : Int32).toUInt32 &&& Int32.toUInt32 31)).toInt32 : Int32).toUInt32 >>> ((4 : Int32).toUInt32 &&& Int32.toUInt32 31)).toInt32 : Int32).toUInt32 >>> ((1 : Int32).toUInt32 &&& Int32.toUInt32 31)).toInt32) else (((1 + 8) + 4) + 2) + ((((((((((x1 ^^^ (-1)) &&& (x1 - 1) : Int32).toUInt32 >>> ((8 : Int32).toUInt32 &&& Int32.toUInt32 31)).toInt32 : Int32).toUInt32 >>> ((4 : Int32).toUInt32 &&& Int32.toUInt32 31)).toInt32 : Int32).toUInt32 >>> ((2 : Int32).toUInt32 &&& Int32.toUInt32 31)).toInt32 : Int32).toUInt32 >>> ((1 : Int32).toUInt32 &&& Int32.toUInt32 31)).toInt32) else if ((((x1 ^^^ (-1)) &&& (x1 - 1) : Int32).toUInt32 >>> ((16 : Int32).toUInt32 &&& Int32.toUInt32 31)).toInt32 : Int32) ≤ 256 then if ((((x1 ^^^ (-1)) &&& (x1 - 1) : Int32).toUInt32 >>> ((16 : Int32).toUInt32 &&& Int32.toUInt32 31)).toInt32 : Int32) ≤ 16 then if ((((x1 ^^^ (-1)) &&& (x1 - 1) : Int32).toUInt32 >>> ((16 : Int32).toUInt32 &&& Int32.toUInt32 31)).toInt32 : Int32) ≤ 4 then (1 + 16) + ((((((x1 ^^^ (-1)) &&& (x1 - 1) : Int32).toUInt32 >>> ((16 : Int32).toUInt32 &&& Int32.toUInt32 31)).toInt32 : Int32).toUInt32 >>> ((1 : Int32).toUInt32 &&& Int32.toUInt32 31)).toInt32) else ((1 + 16) + 2) + ((((((((x1 ^^^ (-1)) &&& (x1 - 1) : Int32).toUInt32 >>> ((16 : Int32).toUInt32 &&& Int32.toUInt32 31)).toInt32 : Int32).toUInt32 >>> ((2 : Int32).toUInt32 &&& Int32.toUInt32 31)).toInt32 : Int32).toUInt32 >>> ((1 : Int32).toUInt32 &&& Int32.toUInt32 31)).toInt32) else if ((((((x1 ^^^ (-1)) &&& (x1 - 1) : Int32).toUInt32 >>> ((16 : Int32).toUInt32 &&& Int32.toUInt32 31)).toInt32 : Int32).toUInt32 >>> ((4 : Int32).toUInt32 &&& Int32.toUInt32 31)).toInt32 : Int32) ≤ 4 then ((1 + 16) + 4) + ((((((((x1 ^^^ (-1)) &&& (x1 - 1) : Int32).toUInt32 >>> ((16 : Int32).toUInt32 &&& Int32.toUInt32 31)).toInt32 : Int32).toUInt32 >>> ((4 : Int32).toUInt32 &&& Int32.toUInt32 31)).toInt32 : Int32).toUInt32 >>> ((1 : Int32).toUInt32 &&& Int32.toUInt32 31)).toInt32) else (((1 + 16) + 4) + 2) + ((((((((((x1 ^^^ (-1)) &&& (x1 - 1) : Int32).toUInt32 >>> ((16 : Int32).toUInt32 &&& Int32.toUInt32 31)).toInt32 : Int32).toUInt32 >>> ((4 : Int32).toUInt32 &&& Int32.toUInt32 31)).toInt32 : Int32).toUInt32 >>> ((2 : Int32).toUInt32 &&& Int32.toUInt32 31)).toInt32 : Int32).toUInt32 >>> ((1 : Int32).toUInt32 &&& Int32.toUInt32 31)).toInt32) else if ((((((x1 ^^^ (-1)) &&& (x1 - 1) : Int32).toUInt32 >>> ((16 : Int32).toUInt32 &&& Int32.toUInt32 31)).toInt32 : Int32).toUInt32 >>> ((8 : Int32).toUInt32 &&& Int32.toUInt32 31)).toInt32 : Int32) ≤ 16 then if ((((((x1 ^^^ (-1)) &&& (x1 - 1) : Int32).toUInt32 >>> ((16 : Int32).toUInt32 &&& Int32.toUInt32 31)).toInt32 : Int32).toUInt32 >>> ((8 : Int32).toUInt32 &&& Int32.toUInt32 31)).toInt32 : Int32) ≤ 4 then ((1 + 16) + 8) + ((((((((x1 ^^^ (-1)) &&& (x1 - 1) : Int32).toUInt32 >>> ((16 : Int32).toUInt32 &&& Int32.toUInt32 31)).toInt32 : Int32).toUInt32 >>> ((8 : Int32).toUInt32 &&& Int32.toUInt32 31)).toInt32 : Int32).toUInt32 >>> ((1 : Int32).toUInt32 &&& Int32.toUInt32 31)).toInt32) else (((1 + 16) + 8) + 2) + ((((((((((x1 ^^^ (-1)) &&& (x1 - 1) : Int32).toUInt32 >>> ((16 : Int32).toUInt32 &&& Int32.toUInt32 31)).toInt32 : Int32).toUInt32 >>> ((8 : Int32).toUInt32 &&& Int32.toUInt32 31)).toInt32 : Int32).toUInt32 >>> ((2 : Int32).toUInt32 &&& Int32.toUInt32 31)).toInt32 : Int32).toUInt32 >>> ((1 : Int32).toUInt32 &&& Int32.toUInt32 31)).toInt32) else if ((((((((x1 ^^^ (-1)) &&& (x1 - 1) : Int32).toUInt32 >>> ((16 : Int32).toUInt32 &&& Int32.toUInt32 31)).toInt32 : Int32).toUInt32 >>> ((8 : Int32).toUInt32 &&& Int32.toUInt32 31)).toInt32 : Int32).toUInt32 >>> ((4 : Int32).toUInt32 &&& Int32.toUInt32 31)).toInt32 : Int32) ≤ 4 then (((1 + 16) + 8) + 4) + ((((((((((x1 ^^^ (-1)) &&& (x1 - 1) : Int32).toUInt32 >>> ((16 : Int32).toUInt32 &&& Int32.toUInt32 31)).toInt32 : Int32).toUInt32 >>> ((8 : Int32).toUInt32 &&& Int32.toUInt32 31)).toInt32 : Int32).toUInt32 >>> ((4 : Int32).toUInt32 &&& Int32.toUInt32 31)).toInt32 : Int32).toUInt32 >>> ((1 : Int32).toUInt32 &&& Int32.toUInt32 31)).toInt32) else ((((1 + 16) + 8) + 4) + 2) + ((((((((((((x1 ^^^ (-1)) &&& (x1 - 1) : Int32).toUInt32 >>> ((16 : Int32).toUInt32 &&& Int32.toUInt32 31)).toInt32 : Int32).toUInt32 >>> ((8 : Int32).toUInt32 &&& Int32.toUInt32 31)).toInt32 : Int32).toUInt32 >>> ((4 : Int32).toUInt32 &&& Int32.toUInt32 31)).toInt32 : Int32).toUInt32 >>> ((2 : Int32).toUInt32 &&& Int32.toUInt32 31)).toInt32 : Int32).toUInt32 >>> ((1 : Int32).toUInt32 &&& Int32.toUInt32 31)).toInt32) else ((x1 ^^^ (-1)) &&& (x1 - 1)) &&& 32
set_option maxRecDepth 100000 in
set_option maxHeartbeats 4000000 in
theorem ev_J6_numberOfTrailingZeros_0f7a4 {l : Launch} {b : Nat} {cy : Nat → ClassId} {D : va_G} {d : Nat}  {x1 : Int32} {σ : Sg}   : Es l b cy D (d + 0) yJ6_numberOfTrailingZeros_0f7a4 cJ6_numberOfTrailingZeros_0f7a4 (Option.some Jvm.ClassFile.FieldType.int) 2 [.int (x1)] σ (some (.int (rJ6_numberOfTrailingZeros_0f7a4 x1 σ))) σ := by
  refine Ev.ofF (by decide +kernel) (Nat.le_of_ble_eq_true rfl) rfl ?_
  refine g_iload_n (pc' := 1) dJ6_numberOfTrailingZeros_0f7a4_0 rfl 0 rfl rfl ?_
  refine g_iconst (pc' := 2) (v := -1) dJ6_numberOfTrailingZeros_0f7a4_1 rfl (by decide) ?_
  refine g_ixor (pc' := 3) dJ6_numberOfTrailingZeros_0f7a4_2 rfl ?_
  refine g_iload_n (pc' := 4) dJ6_numberOfTrailingZeros_0f7a4_3 rfl 0 rfl rfl ?_
  refine g_iconst (pc' := 5) (v := 1) dJ6_numberOfTrailingZeros_0f7a4_4 rfl (by decide) ?_
  refine g_isub (pc' := 6) dJ6_numberOfTrailingZeros_0f7a4_5 rfl ?_
  refine g_iand (pc' := 7) dJ6_numberOfTrailingZeros_0f7a4_6 rfl ?_
  refine g_istore_n (pc' := 8) (j := 0) (lv' := [(0, .int ((x1 ^^^ (-1)) &&& (x1 - 1)))]) dJ6_numberOfTrailingZeros_0f7a4_7 rfl rfl (by decide) rfl ?_
  refine g_iload_n (pc' := 9) dJ6_numberOfTrailingZeros_0f7a4_8 rfl 0 rfl rfl ?_
  refine g_if_gt (pc' := 12) (tgt := 17) dJ6_numberOfTrailingZeros_0f7a4_9 rfl (by decide) (fun (c1 : 0 < ((x1 ^^^ (-1)) &&& (x1 - 1) : Int32)) => ?_) (fun (c1 : ¬ 0 < ((x1 ^^^ (-1)) &&& (x1 - 1) : Int32)) => ?_)
  · refine g_iconst (pc' := 18) (v := 1) dJ6_numberOfTrailingZeros_0f7a4_17 rfl (by decide) ?_
    refine g_istore_n (pc' := 19) (j := 1) (lv' := [(1, .int (1)), (0, .int ((x1 ^^^ (-1)) &&& (x1 - 1)))]) dJ6_numberOfTrailingZeros_0f7a4_18 rfl rfl (by decide) rfl ?_
    refine g_iload_n (pc' := 20) dJ6_numberOfTrailingZeros_0f7a4_19 rfl 1 rfl rfl ?_
    refine g_ldcw (pc' := 23) dJ6_numberOfTrailingZeros_0f7a4_20 rfl kJ6_264 ?_
    refine g_icmp_le (pc' := 26) (tgt := 34) dJ6_numberOfTrailingZeros_0f7a4_23 rfl (by decide) (fun (c2 : ((x1 ^^^ (-1)) &&& (x1 - 1) : Int32) ≤ 65536) => ?_) (fun (c2 : ¬ ((x1 ^^^ (-1)) &&& (x1 - 1) : Int32) ≤ 65536) => ?_)
    · refine g_iload_n (pc' := 35) dJ6_numberOfTrailingZeros_0f7a4_34 rfl 1 rfl rfl ?_
      refine g_sipush (pc' := 38) (v := 256) dJ6_numberOfTrailingZeros_0f7a4_35 rfl (by decide) ?_
      refine g_icmp_le (pc' := 41) (tgt := 49) dJ6_numberOfTrailingZeros_0f7a4_38 rfl (by decide) (fun (c3 : ((x1 ^^^ (-1)) &&& (x1 - 1) : Int32) ≤ 256) => ?_) (fun (c3 : ¬ ((x1 ^^^ (-1)) &&& (x1 - 1) : Int32) ≤ 256) => ?_)
      · refine g_iload_n (pc' := 50) dJ6_numberOfTrailingZeros_0f7a4_49 rfl 1 rfl rfl ?_
        refine g_bipush (pc' := 52) (v := 16) dJ6_numberOfTrailingZeros_0f7a4_50 rfl (by decide) ?_
        refine g_icmp_le (pc' := 55) (tgt := 62) dJ6_numberOfTrailingZeros_0f7a4_52 rfl (by decide) (fun (c4 : ((x1 ^^^ (-1)) &&& (x1 - 1) : Int32) ≤ 16) => ?_) (fun (c4 : ¬ ((x1 ^^^ (-1)) &&& (x1 - 1) : Int32) ≤ 16) => ?_)
        · refine g_iload_n (pc' := 63) dJ6_numberOfTrailingZeros_0f7a4_62 rfl 1 rfl rfl ?_
          refine g_iconst (pc' := 64) (v := 4) dJ6_numberOfTrailingZeros_0f7a4_63 rfl (by decide) ?_
          refine g_icmp_le (pc' := 67) (tgt := 74) dJ6_numberOfTrailingZeros_0f7a4_64 rfl (by decide) (fun (c5 : ((x1 ^^^ (-1)) &&& (x1 - 1) : Int32) ≤ 4) => ?_) (fun (c5 : ¬ ((x1 ^^^ (-1)) &&& (x1 - 1) : Int32) ≤ 4) => ?_)
          · refine g_iload_n (pc' := 75) dJ6_numberOfTrailingZeros_0f7a4_74 rfl 0 rfl rfl ?_
            refine g_iload_n (pc' := 76) dJ6_numberOfTrailingZeros_0f7a4_75 rfl 1 rfl rfl ?_
            refine g_iconst (pc' := 77) (v := 1) dJ6_numberOfTrailingZeros_0f7a4_76 rfl (by decide) ?_
            refine g_iushr (pc' := 78) dJ6_numberOfTrailingZeros_0f7a4_77 rfl ?_
            refine g_iadd (pc' := 79) dJ6_numberOfTrailingZeros_0f7a4_78 rfl ?_
            exact g_iret dJ6_numberOfTrailingZeros_0f7a4_79 rfl ⟨rfl, rfl⟩ (by simp only [rJ6_numberOfTrailingZeros_0f7a4, if_pos c1, if_pos c2, if_pos c3, if_pos c4, if_pos c5, bI_t, bI_f])
          · refine g_iinc (pc' := 70) (v := 1 + 2) (lv' := [(1, .int (1 + 2)), (0, .int ((x1 ^^^ (-1)) &&& (x1 - 1)))]) dJ6_numberOfTrailingZeros_0f7a4_67 rfl 0 rfl rfl (by decide) rfl ?_
            refine g_iload_n (pc' := 71) dJ6_numberOfTrailingZeros_0f7a4_70 rfl 1 rfl rfl ?_
            refine g_iconst (pc' := 72) (v := 2) dJ6_numberOfTrailingZeros_0f7a4_71 rfl (by decide) ?_
            refine g_iushr (pc' := 73) dJ6_numberOfTrailingZeros_0f7a4_72 rfl ?_
            refine g_istore_n (pc' := 74) (j := 0) (lv' := [(0, .int ((((x1 ^^^ (-1)) &&& (x1 - 1) : Int32).toUInt32 >>> ((2 : Int32).toUInt32 &&& Int32.toUInt32 31)).toInt32)), (1, .int (1 + 2))]) dJ6_numberOfTrailingZeros_0f7a4_73 rfl rfl (by decide) rfl ?_
            refine g_iload_n (pc' := 75) dJ6_numberOfTrailingZeros_0f7a4_74 rfl 1 rfl rfl ?_
            refine g_iload_n (pc' := 76) dJ6_numberOfTrailingZeros_0f7a4_75 rfl 0 rfl rfl ?_
            refine g_iconst (pc' := 77) (v := 1) dJ6_numberOfTrailingZeros_0f7a4_76 rfl (by decide) ?_
            refine g_iushr (pc' := 78) dJ6_numberOfTrailingZeros_0f7a4_77 rfl ?_
            refine g_iadd (pc' := 79) dJ6_numberOfTrailingZeros_0f7a4_78 rfl ?_
            exact g_iret dJ6_numberOfTrailingZeros_0f7a4_79 rfl ⟨rfl, rfl⟩ (by simp only [rJ6_numberOfTrailingZeros_0f7a4, if_pos c1, if_pos c2, if_pos c3, if_pos c4, if_neg c5, bI_t, bI_f])
        · refine g_iinc (pc' := 58) (v := 1 + 4) (lv' := [(1, .int (1 + 4)), (0, .int ((x1 ^^^ (-1)) &&& (x1 - 1)))]) dJ6_numberOfTrailingZeros_0f7a4_55 rfl 0 rfl rfl (by decide) rfl ?_
          refine g_iload_n (pc' := 59) dJ6_numberOfTrailingZeros_0f7a4_58 rfl 1 rfl rfl ?_
          refine g_iconst (pc' := 60) (v := 4) dJ6_numberOfTrailingZeros_0f7a4_59 rfl (by decide) ?_
          refine g_iushr (pc' := 61) dJ6_numberOfTrailingZeros_0f7a4_60 rfl ?_
          refine g_istore_n (pc' := 62) (j := 0) (lv' := [(0, .int ((((x1 ^^^ (-1)) &&& (x1 - 1) : Int32).toUInt32 >>> ((4 : Int32).toUInt32 &&& Int32.toUInt32 31)).toInt32)), (1, .int (1 + 4))]) dJ6_numberOfTrailingZeros_0f7a4_61 rfl rfl (by decide) rfl ?_
          refine g_iload_n (pc' := 63) dJ6_numberOfTrailingZeros_0f7a4_62 rfl 0 rfl rfl ?_
          refine g_iconst (pc' := 64) (v := 4) dJ6_numberOfTrailingZeros_0f7a4_63 rfl (by decide) ?_
          refine g_icmp_le (pc' := 67) (tgt := 74) dJ6_numberOfTrailingZeros_0f7a4_64 rfl (by decide) (fun (c6 : ((((x1 ^^^ (-1)) &&& (x1 - 1) : Int32).toUInt32 >>> ((4 : Int32).toUInt32 &&& Int32.toUInt32 31)).toInt32 : Int32) ≤ 4) => ?_) (fun (c6 : ¬ ((((x1 ^^^ (-1)) &&& (x1 - 1) : Int32).toUInt32 >>> ((4 : Int32).toUInt32 &&& Int32.toUInt32 31)).toInt32 : Int32) ≤ 4) => ?_)
          · refine g_iload_n (pc' := 75) dJ6_numberOfTrailingZeros_0f7a4_74 rfl 1 rfl rfl ?_
            refine g_iload_n (pc' := 76) dJ6_numberOfTrailingZeros_0f7a4_75 rfl 0 rfl rfl ?_
            refine g_iconst (pc' := 77) (v := 1) dJ6_numberOfTrailingZeros_0f7a4_76 rfl (by decide) ?_
            refine g_iushr (pc' := 78) dJ6_numberOfTrailingZeros_0f7a4_77 rfl ?_
            refine g_iadd (pc' := 79) dJ6_numberOfTrailingZeros_0f7a4_78 rfl ?_
            exact g_iret dJ6_numberOfTrailingZeros_0f7a4_79 rfl ⟨rfl, rfl⟩ (by simp only [rJ6_numberOfTrailingZeros_0f7a4, if_pos c1, if_pos c2, if_pos c3, if_neg c4, if_pos c6, bI_t, bI_f])
          · refine g_iinc (pc' := 70) (v := (1 + 4) + 2) (lv' := [(1, .int ((1 + 4) + 2)), (0, .int ((((x1 ^^^ (-1)) &&& (x1 - 1) : Int32).toUInt32 >>> ((4 : Int32).toUInt32 &&& Int32.toUInt32 31)).toInt32))]) dJ6_numberOfTrailingZeros_0f7a4_67 rfl 1 rfl rfl (by decide) rfl ?_
            refine g_iload_n (pc' := 71) dJ6_numberOfTrailingZeros_0f7a4_70 rfl 1 rfl rfl ?_
            refine g_iconst (pc' := 72) (v := 2) dJ6_numberOfTrailingZeros_0f7a4_71 rfl (by decide) ?_
            refine g_iushr (pc' := 73) dJ6_numberOfTrailingZeros_0f7a4_72 rfl ?_
            refine g_istore_n (pc' := 74) (j := 0) (lv' := [(0, .int ((((((x1 ^^^ (-1)) &&& (x1 - 1) : Int32).toUInt32 >>> ((4 : Int32).toUInt32 &&& Int32.toUInt32 31)).toInt32 : Int32).toUInt32 >>> ((2 : Int32).toUInt32 &&& Int32.toUInt32 31)).toInt32)), (1, .int ((1 + 4) + 2))]) dJ6_numberOfTrailingZeros_0f7a4_73 rfl rfl (by decide) rfl ?_
            refine g_iload_n (pc' := 75) dJ6_numberOfTrailingZeros_0f7a4_74 rfl 1 rfl rfl ?_
            refine g_iload_n (pc' := 76) dJ6_numberOfTrailingZeros_0f7a4_75 rfl 0 rfl rfl ?_
            refine g_iconst (pc' := 77) (v := 1) dJ6_numberOfTrailingZeros_0f7a4_76 rfl (by decide) ?_
            refine g_iushr (pc' := 78) dJ6_numberOfTrailingZeros_0f7a4_77 rfl ?_
            refine g_iadd (pc' := 79) dJ6_numberOfTrailingZeros_0f7a4_78 rfl ?_
            exact g_iret dJ6_numberOfTrailingZeros_0f7a4_79 rfl ⟨rfl, rfl⟩ (by simp only [rJ6_numberOfTrailingZeros_0f7a4, if_pos c1, if_pos c2, if_pos c3, if_neg c4, if_neg c6, bI_t, bI_f])
      · refine g_iinc (pc' := 44) (v := 1 + 8) (lv' := [(1, .int (1 + 8)), (0, .int ((x1 ^^^ (-1)) &&& (x1 - 1)))]) dJ6_numberOfTrailingZeros_0f7a4_41 rfl 0 rfl rfl (by decide) rfl ?_
        refine g_iload_n (pc' := 45) dJ6_numberOfTrailingZeros_0f7a4_44 rfl 1 rfl rfl ?_
        refine g_bipush (pc' := 47) (v := 8) dJ6_numberOfTrailingZeros_0f7a4_45 rfl (by decide) ?_
        refine g_iushr (pc' := 48) dJ6_numberOfTrailingZeros_0f7a4_47 rfl ?_
        refine g_istore_n (pc' := 49) (j := 0) (lv' := [(0, .int ((((x1 ^^^ (-1)) &&& (x1 - 1) : Int32).toUInt32 >>> ((8 : Int32).toUInt32 &&& Int32.toUInt32 31)).toInt32)), (1, .int (1 + 8))]) dJ6_numberOfTrailingZeros_0f7a4_48 rfl rfl (by decide) rfl ?_
        refine g_iload_n (pc' := 50) dJ6_numberOfTrailingZeros_0f7a4_49 rfl 0 rfl rfl ?_
        refine g_bipush (pc' := 52) (v := 16) dJ6_numberOfTrailingZeros_0f7a4_50 rfl (by decide) ?_
        refine g_icmp_le (pc' := 55) (tgt := 62) dJ6_numberOfTrailingZeros_0f7a4_52 rfl (by decide) (fun (c7 : ((((x1 ^^^ (-1)) &&& (x1 - 1) : Int32).toUInt32 >>> ((8 : Int32).toUInt32 &&& Int32.toUInt32 31)).toInt32 : Int32) ≤ 16) => ?_) (fun (c7 : ¬ ((((x1 ^^^ (-1)) &&& (x1 - 1) : Int32).toUInt32 >>> ((8 : Int32).toUInt32 &&& Int32.toUInt32 31)).toInt32 : Int32) ≤ 16) => ?_)
        · refine g_iload_n (pc' := 63) dJ6_numberOfTrailingZeros_0f7a4_62 rfl 0 rfl rfl ?_
          refine g_iconst (pc' := 64) (v := 4) dJ6_numberOfTrailingZeros_0f7a4_63 rfl (by decide) ?_
          refine g_icmp_le (pc' := 67) (tgt := 74) dJ6_numberOfTrailingZeros_0f7a4_64 rfl (by decide) (fun (c8 : ((((x1 ^^^ (-1)) &&& (x1 - 1) : Int32).toUInt32 >>> ((8 : Int32).toUInt32 &&& Int32.toUInt32 31)).toInt32 : Int32) ≤ 4) => ?_) (fun (c8 : ¬ ((((x1 ^^^ (-1)) &&& (x1 - 1) : Int32).toUInt32 >>> ((8 : Int32).toUInt32 &&& Int32.toUInt32 31)).toInt32 : Int32) ≤ 4) => ?_)
          · refine g_iload_n (pc' := 75) dJ6_numberOfTrailingZeros_0f7a4_74 rfl 1 rfl rfl ?_
            refine g_iload_n (pc' := 76) dJ6_numberOfTrailingZeros_0f7a4_75 rfl 0 rfl rfl ?_
            refine g_iconst (pc' := 77) (v := 1) dJ6_numberOfTrailingZeros_0f7a4_76 rfl (by decide) ?_
            refine g_iushr (pc' := 78) dJ6_numberOfTrailingZeros_0f7a4_77 rfl ?_
            refine g_iadd (pc' := 79) dJ6_numberOfTrailingZeros_0f7a4_78 rfl ?_
            exact g_iret dJ6_numberOfTrailingZeros_0f7a4_79 rfl ⟨rfl, rfl⟩ (by simp only [rJ6_numberOfTrailingZeros_0f7a4, if_pos c1, if_pos c2, if_neg c3, if_pos c7, if_pos c8, bI_t, bI_f])
          · refine g_iinc (pc' := 70) (v := (1 + 8) + 2) (lv' := [(1, .int ((1 + 8) + 2)), (0, .int ((((x1 ^^^ (-1)) &&& (x1 - 1) : Int32).toUInt32 >>> ((8 : Int32).toUInt32 &&& Int32.toUInt32 31)).toInt32))]) dJ6_numberOfTrailingZeros_0f7a4_67 rfl 1 rfl rfl (by decide) rfl ?_
            refine g_iload_n (pc' := 71) dJ6_numberOfTrailingZeros_0f7a4_70 rfl 1 rfl rfl ?_
            refine g_iconst (pc' := 72) (v := 2) dJ6_numberOfTrailingZeros_0f7a4_71 rfl (by decide) ?_
            refine g_iushr (pc' := 73) dJ6_numberOfTrailingZeros_0f7a4_72 rfl ?_
            refine g_istore_n (pc' := 74) (j := 0) (lv' := [(0, .int ((((((x1 ^^^ (-1)) &&& (x1 - 1) : Int32).toUInt32 >>> ((8 : Int32).toUInt32 &&& Int32.toUInt32 31)).toInt32 : Int32).toUInt32 >>> ((2 : Int32).toUInt32 &&& Int32.toUInt32 31)).toInt32)), (1, .int ((1 + 8) + 2))]) dJ6_numberOfTrailingZeros_0f7a4_73 rfl rfl (by decide) rfl ?_
            refine g_iload_n (pc' := 75) dJ6_numberOfTrailingZeros_0f7a4_74 rfl 1 rfl rfl ?_
            refine g_iload_n (pc' := 76) dJ6_numberOfTrailingZeros_0f7a4_75 rfl 0 rfl rfl ?_
            refine g_iconst (pc' := 77) (v := 1) dJ6_numberOfTrailingZeros_0f7a4_76 rfl (by decide) ?_
            refine g_iushr (pc' := 78) dJ6_numberOfTrailingZeros_0f7a4_77 rfl ?_
            refine g_iadd (pc' := 79) dJ6_numberOfTrailingZeros_0f7a4_78 rfl ?_
            exact g_iret dJ6_numberOfTrailingZeros_0f7a4_79 rfl ⟨rfl, rfl⟩ (by simp only [rJ6_numberOfTrailingZeros_0f7a4, if_pos c1, if_pos c2, if_neg c3, if_pos c7, if_neg c8, bI_t, bI_f])
        · refine g_iinc (pc' := 58) (v := (1 + 8) + 4) (lv' := [(1, .int ((1 + 8) + 4)), (0, .int ((((x1 ^^^ (-1)) &&& (x1 - 1) : Int32).toUInt32 >>> ((8 : Int32).toUInt32 &&& Int32.toUInt32 31)).toInt32))]) dJ6_numberOfTrailingZeros_0f7a4_55 rfl 1 rfl rfl (by decide) rfl ?_
          refine g_iload_n (pc' := 59) dJ6_numberOfTrailingZeros_0f7a4_58 rfl 1 rfl rfl ?_
          refine g_iconst (pc' := 60) (v := 4) dJ6_numberOfTrailingZeros_0f7a4_59 rfl (by decide) ?_
          refine g_iushr (pc' := 61) dJ6_numberOfTrailingZeros_0f7a4_60 rfl ?_
          refine g_istore_n (pc' := 62) (j := 0) (lv' := [(0, .int ((((((x1 ^^^ (-1)) &&& (x1 - 1) : Int32).toUInt32 >>> ((8 : Int32).toUInt32 &&& Int32.toUInt32 31)).toInt32 : Int32).toUInt32 >>> ((4 : Int32).toUInt32 &&& Int32.toUInt32 31)).toInt32)), (1, .int ((1 + 8) + 4))]) dJ6_numberOfTrailingZeros_0f7a4_61 rfl rfl (by decide) rfl ?_
          refine g_iload_n (pc' := 63) dJ6_numberOfTrailingZeros_0f7a4_62 rfl 0 rfl rfl ?_
          refine g_iconst (pc' := 64) (v := 4) dJ6_numberOfTrailingZeros_0f7a4_63 rfl (by decide) ?_
          refine g_icmp_le (pc' := 67) (tgt := 74) dJ6_numberOfTrailingZeros_0f7a4_64 rfl (by decide) (fun (c9 : ((((((x1 ^^^ (-1)) &&& (x1 - 1) : Int32).toUInt32 >>> ((8 : Int32).toUInt32 &&& Int32.toUInt32 31)).toInt32 : Int32).toUInt32 >>> ((4 : Int32).toUInt32 &&& Int32.toUInt32 31)).toInt32 : Int32) ≤ 4) => ?_) (fun (c9 : ¬ ((((((x1 ^^^ (-1)) &&& (x1 - 1) : Int32).toUInt32 >>> ((8 : Int32).toUInt32 &&& Int32.toUInt32 31)).toInt32 : Int32).toUInt32 >>> ((4 : Int32).toUInt32 &&& Int32.toUInt32 31)).toInt32 : Int32) ≤ 4) => ?_)
          · refine g_iload_n (pc' := 75) dJ6_numberOfTrailingZeros_0f7a4_74 rfl 1 rfl rfl ?_
            refine g_iload_n (pc' := 76) dJ6_numberOfTrailingZeros_0f7a4_75 rfl 0 rfl rfl ?_
            refine g_iconst (pc' := 77) (v := 1) dJ6_numberOfTrailingZeros_0f7a4_76 rfl (by decide) ?_
            refine g_iushr (pc' := 78) dJ6_numberOfTrailingZeros_0f7a4_77 rfl ?_
            refine g_iadd (pc' := 79) dJ6_numberOfTrailingZeros_0f7a4_78 rfl ?_
            exact g_iret dJ6_numberOfTrailingZeros_0f7a4_79 rfl ⟨rfl, rfl⟩ (by simp only [rJ6_numberOfTrailingZeros_0f7a4, if_pos c1, if_pos c2, if_neg c3, if_neg c7, if_pos c9, bI_t, bI_f])
          · refine g_iinc (pc' := 70) (v := ((1 + 8) + 4) + 2) (lv' := [(1, .int (((1 + 8) + 4) + 2)), (0, .int ((((((x1 ^^^ (-1)) &&& (x1 - 1) : Int32).toUInt32 >>> ((8 : Int32).toUInt32 &&& Int32.toUInt32 31)).toInt32 : Int32).toUInt32 >>> ((4 : Int32).toUInt32 &&& Int32.toUInt32 31)).toInt32))]) dJ6_numberOfTrailingZeros_0f7a4_67 rfl 1 rfl rfl (by decide) rfl ?_
            refine g_iload_n (pc' := 71) dJ6_numberOfTrailingZeros_0f7a4_70 rfl 1 rfl rfl ?_
            refine g_iconst (pc' := 72) (v := 2) dJ6_numberOfTrailingZeros_0f7a4_71 rfl (by decide) ?_
            refine g_iushr (pc' := 73) dJ6_numberOfTrailingZeros_0f7a4_72 rfl ?_
            refine g_istore_n (pc' := 74) (j := 0) (lv' := [(0, .int ((((((((x1 ^^^ (-1)) &&& (x1 - 1) : Int32).toUInt32 >>> ((8 : Int32).toUInt32 &&& Int32.toUInt32 31)).toInt32 : Int32).toUInt32 >>> ((4 : Int32).toUInt32 &&& Int32.toUInt32 31)).toInt32 : Int32).toUInt32 >>> ((2 : Int32).toUInt32 &&& Int32.toUInt32 31)).toInt32)), (1, .int (((1 + 8) + 4) + 2))]) dJ6_numberOfTrailingZeros_0f7a4_73 rfl rfl (by decide) rfl ?_
            refine g_iload_n (pc' := 75) dJ6_numberOfTrailingZeros_0f7a4_74 rfl 1 rfl rfl ?_
            refine g_iload_n (pc' := 76) dJ6_numberOfTrailingZeros_0f7a4_75 rfl 0 rfl rfl ?_
            refine g_iconst (pc' := 77) (v := 1) dJ6_numberOfTrailingZeros_0f7a4_76 rfl (by decide) ?_
            refine g_iushr (pc' := 78) dJ6_numberOfTrailingZeros_0f7a4_77 rfl ?_
            refine g_iadd (pc' := 79) dJ6_numberOfTrailingZeros_0f7a4_78 rfl ?_
            exact g_iret dJ6_numberOfTrailingZeros_0f7a4_79 rfl ⟨rfl, rfl⟩ (by simp only [rJ6_numberOfTrailingZeros_0f7a4, if_pos c1, if_pos c2, if_neg c3, if_neg c7, if_neg c9, bI_t, bI_f])
    · refine g_iinc (pc' := 29) (v := 1 + 16) (lv' := [(1, .int (1 + 16)), (0, .int ((x1 ^^^ (-1)) &&& (x1 - 1)))]) dJ6_numberOfTrailingZeros_0f7a4_26 rfl 0 rfl rfl (by decide) rfl ?_
      refine g_iload_n (pc' := 30) dJ6_numberOfTrailingZeros_0f7a4_29 rfl 1 rfl rfl ?_
      refine g_bipush (pc' := 32) (v := 16) dJ6_numberOfTrailingZeros_0f7a4_30 rfl (by decide) ?_
      refine g_iushr (pc' := 33) dJ6_numberOfTrailingZeros_0f7a4_32 rfl ?_
      refine g_istore_n (pc' := 34) (j := 0) (lv' := [(0, .int ((((x1 ^^^ (-1)) &&& (x1 - 1) : Int32).toUInt32 >>> ((16 : Int32).toUInt32 &&& Int32.toUInt32 31)).toInt32)), (1, .int (1 + 16))]) dJ6_numberOfTrailingZeros_0f7a4_33 rfl rfl (by decide) rfl ?_
      refine g_iload_n (pc' := 35) dJ6_numberOfTrailingZeros_0f7a4_34 rfl 0 rfl rfl ?_
      refine g_sipush (pc' := 38) (v := 256) dJ6_numberOfTrailingZeros_0f7a4_35 rfl (by decide) ?_
      refine g_icmp_le (pc' := 41) (tgt := 49) dJ6_numberOfTrailingZeros_0f7a4_38 rfl (by decide) (fun (c10 : ((((x1 ^^^ (-1)) &&& (x1 - 1) : Int32).toUInt32 >>> ((16 : Int32).toUInt32 &&& Int32.toUInt32 31)).toInt32 : Int32) ≤ 256) => ?_) (fun (c10 : ¬ ((((x1 ^^^ (-1)) &&& (x1 - 1) : Int32).toUInt32 >>> ((16 : Int32).toUInt32 &&& Int32.toUInt32 31)).toInt32 : Int32) ≤ 256) => ?_)
      · refine g_iload_n (pc' := 50) dJ6_numberOfTrailingZeros_0f7a4_49 rfl 0 rfl rfl ?_
        refine g_bipush (pc' := 52) (v := 16) dJ6_numberOfTrailingZeros_0f7a4_50 rfl (by decide) ?_
        refine g_icmp_le (pc' := 55) (tgt := 62) dJ6_numberOfTrailingZeros_0f7a4_52 rfl (by decide) (fun (c11 : ((((x1 ^^^ (-1)) &&& (x1 - 1) : Int32).toUInt32 >>> ((16 : Int32).toUInt32 &&& Int32.toUInt32 31)).toInt32 : Int32) ≤ 16) => ?_) (fun (c11 : ¬ ((((x1 ^^^ (-1)) &&& (x1 - 1) : Int32).toUInt32 >>> ((16 : Int32).toUInt32 &&& Int32.toUInt32 31)).toInt32 : Int32) ≤ 16) => ?_)
        · refine g_iload_n (pc' := 63) dJ6_numberOfTrailingZeros_0f7a4_62 rfl 0 rfl rfl ?_
          refine g_iconst (pc' := 64) (v := 4) dJ6_numberOfTrailingZeros_0f7a4_63 rfl (by decide) ?_
          refine g_icmp_le (pc' := 67) (tgt := 74) dJ6_numberOfTrailingZeros_0f7a4_64 rfl (by decide) (fun (c12 : ((((x1 ^^^ (-1)) &&& (x1 - 1) : Int32).toUInt32 >>> ((16 : Int32).toUInt32 &&& Int32.toUInt32 31)).toInt32 : Int32) ≤ 4) => ?_) (fun (c12 : ¬ ((((x1 ^^^ (-1)) &&& (x1 - 1) : Int32).toUInt32 >>> ((16 : Int32).toUInt32 &&& Int32.toUInt32 31)).toInt32 : Int32) ≤ 4) => ?_)
          · refine g_iload_n (pc' := 75) dJ6_numberOfTrailingZeros_0f7a4_74 rfl 1 rfl rfl ?_
            refine g_iload_n (pc' := 76) dJ6_numberOfTrailingZeros_0f7a4_75 rfl 0 rfl rfl ?_
            refine g_iconst (pc' := 77) (v := 1) dJ6_numberOfTrailingZeros_0f7a4_76 rfl (by decide) ?_
            refine g_iushr (pc' := 78) dJ6_numberOfTrailingZeros_0f7a4_77 rfl ?_
            refine g_iadd (pc' := 79) dJ6_numberOfTrailingZeros_0f7a4_78 rfl ?_
            exact g_iret dJ6_numberOfTrailingZeros_0f7a4_79 rfl ⟨rfl, rfl⟩ (by simp only [rJ6_numberOfTrailingZeros_0f7a4, if_pos c1, if_neg c2, if_pos c10, if_pos c11, if_pos c12, bI_t, bI_f])
          · refine g_iinc (pc' := 70) (v := (1 + 16) + 2) (lv' := [(1, .int ((1 + 16) + 2)), (0, .int ((((x1 ^^^ (-1)) &&& (x1 - 1) : Int32).toUInt32 >>> ((16 : Int32).toUInt32 &&& Int32.toUInt32 31)).toInt32))]) dJ6_numberOfTrailingZeros_0f7a4_67 rfl 1 rfl rfl (by decide) rfl ?_
            refine g_iload_n (pc' := 71) dJ6_numberOfTrailingZeros_0f7a4_70 rfl 1 rfl rfl ?_
            refine g_iconst (pc' := 72) (v := 2) dJ6_numberOfTrailingZeros_0f7a4_71 rfl (by decide) ?_
            refine g_iushr (pc' := 73) dJ6_numberOfTrailingZeros_0f7a4_72 rfl ?_
            refine g_istore_n (pc' := 74) (j := 0) (lv' := [(0, .int ((((((x1 ^^^ (-1)) &&& (x1 - 1) : Int32).toUInt32 >>> ((16 : Int32).toUInt32 &&& Int32.toUInt32 31)).toInt32 : Int32).toUInt32 >>> ((2 : Int32).toUInt32 &&& Int32.toUInt32 31)).toInt32)), (1, .int ((1 + 16) + 2))]) dJ6_numberOfTrailingZeros_0f7a4_73 rfl rfl (by decide) rfl ?_
            refine g_iload_n (pc' := 75) dJ6_numberOfTrailingZeros_0f7a4_74 rfl 1 rfl rfl ?_
            refine g_iload_n (pc' := 76) dJ6_numberOfTrailingZeros_0f7a4_75 rfl 0 rfl rfl ?_
            refine g_iconst (pc' := 77) (v := 1) dJ6_numberOfTrailingZeros_0f7a4_76 rfl (by decide) ?_
            refine g_iushr (pc' := 78) dJ6_numberOfTrailingZeros_0f7a4_77 rfl ?_
            refine g_iadd (pc' := 79) dJ6_numberOfTrailingZeros_0f7a4_78 rfl ?_
            exact g_iret dJ6_numberOfTrailingZeros_0f7a4_79 rfl ⟨rfl, rfl⟩ (by simp only [rJ6_numberOfTrailingZeros_0f7a4, if_pos c1, if_neg c2, if_pos c10, if_pos c11, if_neg c12, bI_t, bI_f])
        · refine g_iinc (pc' := 58) (v := (1 + 16) + 4) (lv' := [(1, .int ((1 + 16) + 4)), (0, .int ((((x1 ^^^ (-1)) &&& (x1 - 1) : Int32).toUInt32 >>> ((16 : Int32).toUInt32 &&& Int32.toUInt32 31)).toInt32))]) dJ6_numberOfTrailingZeros_0f7a4_55 rfl 1 rfl rfl (by decide) rfl ?_
          refine g_iload_n (pc' := 59) dJ6_numberOfTrailingZeros_0f7a4_58 rfl 1 rfl rfl ?_
          refine g_iconst (pc' := 60) (v := 4) dJ6_numberOfTrailingZeros_0f7a4_59 rfl (by decide) ?_
          refine g_iushr (pc' := 61) dJ6_numberOfTrailingZeros_0f7a4_60 rfl ?_
          refine g_istore_n (pc' := 62) (j := 0) (lv' := [(0, .int ((((((x1 ^^^ (-1)) &&& (x1 - 1) : Int32).toUInt32 >>> ((16 : Int32).toUInt32 &&& Int32.toUInt32 31)).toInt32 : Int32).toUInt32 >>> ((4 : Int32).toUInt32 &&& Int32.toUInt32 31)).toInt32)), (1, .int ((1 + 16) + 4))]) dJ6_numberOfTrailingZeros_0f7a4_61 rfl rfl (by decide) rfl ?_
          refine g_iload_n (pc' := 63) dJ6_numberOfTrailingZeros_0f7a4_62 rfl 0 rfl rfl ?_
          refine g_iconst (pc' := 64) (v := 4) dJ6_numberOfTrailingZeros_0f7a4_63 rfl (by decide) ?_
          refine g_icmp_le (pc' := 67) (tgt := 74) dJ6_numberOfTrailingZeros_0f7a4_64 rfl (by decide) (fun (c13 : ((((((x1 ^^^ (-1)) &&& (x1 - 1) : Int32).toUInt32 >>> ((16 : Int32).toUInt32 &&& Int32.toUInt32 31)).toInt32 : Int32).toUInt32 >>> ((4 : Int32).toUInt32 &&& Int32.toUInt32 31)).toInt32 : Int32) ≤ 4) => ?_) (fun (c13 : ¬ ((((((x1 ^^^ (-1)) &&& (x1 - 1) : Int32).toUInt32 >>> ((16 : Int32).toUInt32 &&& Int32.toUInt32 31)).toInt32 : Int32).toUInt32 >>> ((4 : Int32).toUInt32 &&& Int32.toUInt32 31)).toInt32 : Int32) ≤ 4) => ?_)
          · refine g_iload_n (pc' := 75) dJ6_numberOfTrailingZeros_0f7a4_74 rfl 1 rfl rfl ?_
            refine g_iload_n (pc' := 76) dJ6_numberOfTrailingZeros_0f7a4_75 rfl 0 rfl rfl ?_
            refine g_iconst (pc' := 77) (v := 1) dJ6_numberOfTrailingZeros_0f7a4_76 rfl (by decide) ?_
            refine g_iushr (pc' := 78) dJ6_numberOfTrailingZeros_0f7a4_77 rfl ?_
            refine g_iadd (pc' := 79) dJ6_numberOfTrailingZeros_0f7a4_78 rfl ?_
            exact g_iret dJ6_numberOfTrailingZeros_0f7a4_79 rfl ⟨rfl, rfl⟩ (by simp only [rJ6_numberOfTrailingZeros_0f7a4, if_pos c1, if_neg c2, if_pos c10, if_neg c11, if_pos c13, bI_t, bI_f])
          · refine g_iinc (pc' := 70) (v := ((1 + 16) + 4) + 2) (lv' := [(1, .int (((1 + 16) + 4) + 2)), (0, .int ((((((x1 ^^^ (-1)) &&& (x1 - 1) : Int32).toUInt32 >>> ((16 : Int32).toUInt32 &&& Int32.toUInt32 31)).toInt32 : Int32).toUInt32 >>> ((4 : Int32).toUInt32 &&& Int32.toUInt32 31)).toInt32))]) dJ6_numberOfTrailingZeros_0f7a4_67 rfl 1 rfl rfl (by decide) rfl ?_
            refine g_iload_n (pc' := 71) dJ6_numberOfTrailingZeros_0f7a4_70 rfl 1 rfl rfl ?_
            refine g_iconst (pc' := 72) (v := 2) dJ6_numberOfTrailingZeros_0f7a4_71 rfl (by decide) ?_
            refine g_iushr (pc' := 73) dJ6_numberOfTrailingZeros_0f7a4_72 rfl ?_
            refine g_istore_n (pc' := 74) (j := 0) (lv' := [(0, .int ((((((((x1 ^^^ (-1)) &&& (x1 - 1) : Int32).toUInt32 >>> ((16 : Int32).toUInt32 &&& Int32.toUInt32 31)).toInt32 : Int32).toUInt32 >>> ((4 : Int32).toUInt32 &&& Int32.toUInt32 31)).toInt32 : Int32).toUInt32 >>> ((2 : Int32).toUInt32 &&& Int32.toUInt32 31)).toInt32)), (1, .int (((1 + 16) + 4) + 2))]) dJ6_numberOfTrailingZeros_0f7a4_73 rfl rfl (by decide) rfl ?_
            refine g_iload_n (pc' := 75) dJ6_numberOfTrailingZeros_0f7a4_74 rfl 1 rfl rfl ?_
            refine g_iload_n (pc' := 76) dJ6_numberOfTrailingZeros_0f7a4_75 rfl 0 rfl rfl ?_
            refine g_iconst (pc' := 77) (v := 1) dJ6_numberOfTrailingZeros_0f7a4_76 rfl (by decide) ?_
            refine g_iushr (pc' := 78) dJ6_numberOfTrailingZeros_0f7a4_77 rfl ?_
            refine g_iadd (pc' := 79) dJ6_numberOfTrailingZeros_0f7a4_78 rfl ?_
            exact g_iret dJ6_numberOfTrailingZeros_0f7a4_79 rfl ⟨rfl, rfl⟩ (by simp only [rJ6_numberOfTrailingZeros_0f7a4, if_pos c1, if_neg c2, if_pos c10, if_neg c11, if_neg c13, bI_t, bI_f])
      · refine g_iinc (pc' := 44) (v := (1 + 16) + 8) (lv' := [(1, .int ((1 + 16) + 8)), (0, .int ((((x1 ^^^ (-1)) &&& (x1 - 1) : Int32).toUInt32 >>> ((16 : Int32).toUInt32 &&& Int32.toUInt32 31)).toInt32))]) dJ6_numberOfTrailingZeros_0f7a4_41 rfl 1 rfl rfl (by decide) rfl ?_
        refine g_iload_n (pc' := 45) dJ6_numberOfTrailingZeros_0f7a4_44 rfl 1 rfl rfl ?_
        refine g_bipush (pc' := 47) (v := 8) dJ6_numberOfTrailingZeros_0f7a4_45 rfl (by decide) ?_
        refine g_iushr (pc' := 48) dJ6_numberOfTrailingZeros_0f7a4_47 rfl ?_
        refine g_istore_n (pc' := 49) (j := 0) (lv' := [(0, .int ((((((x1 ^^^ (-1)) &&& (x1 - 1) : Int32).toUInt32 >>> ((16 : Int32).toUInt32 &&& Int32.toUInt32 31)).toInt32 : Int32).toUInt32 >>> ((8 : Int32).toUInt32 &&& Int32.toUInt32 31)).toInt32)), (1, .int ((1 + 16) + 8))]) dJ6_numberOfTrailingZeros_0f7a4_48 rfl rfl (by decide) rfl ?_
        refine g_iload_n (pc' := 50) dJ6_numberOfTrailingZeros_0f7a4_49 rfl 0 rfl rfl ?_
        refine g_bipush (pc' := 52) (v := 16) dJ6_numberOfTrailingZeros_0f7a4_50 rfl (by decide) ?_
        refine g_icmp_le (pc' := 55) (tgt := 62) dJ6_numberOfTrailingZeros_0f7a4_52 rfl (by decide) (fun (c14 : ((((((x1 ^^^ (-1)) &&& (x1 - 1) : Int32).toUInt32 >>> ((16 : Int32).toUInt32 &&& Int32.toUInt32 31)).toInt32 : Int32).toUInt32 >>> ((8 : Int32).toUInt32 &&& Int32.toUInt32 31)).toInt32 : Int32) ≤ 16) => ?_) (fun (c14 : ¬ ((((((x1 ^^^ (-1)) &&& (x1 - 1) : Int32).toUInt32 >>> ((16 : Int32).toUInt32 &&& Int32.toUInt32 31)).toInt32 : Int32).toUInt32 >>> ((8 : Int32).toUInt32 &&& Int32.toUInt32 31)).toInt32 : Int32) ≤ 16) => ?_)
        · refine g_iload_n (pc' := 63) dJ6_numberOfTrailingZeros_0f7a4_62 rfl 0 rfl rfl ?_
          refine g_iconst (pc' := 64) (v := 4) dJ6_numberOfTrailingZeros_0f7a4_63 rfl (by decide) ?_
          refine g_icmp_le (pc' := 67) (tgt := 74) dJ6_numberOfTrailingZeros_0f7a4_64 rfl (by decide) (fun (c15 : ((((((x1 ^^^ (-1)) &&& (x1 - 1) : Int32).toUInt32 >>> ((16 : Int32).toUInt32 &&& Int32.toUInt32 31)).toInt32 : Int32).toUInt32 >>> ((8 : Int32).toUInt32 &&& Int32.toUInt32 31)).toInt32 : Int32) ≤ 4) => ?_) (fun (c15 : ¬ ((((((x1 ^^^ (-1)) &&& (x1 - 1) : Int32).toUInt32 >>> ((16 : Int32).toUInt32 &&& Int32.toUInt32 31)).toInt32 : Int32).toUInt32 >>> ((8 : Int32).toUInt32 &&& Int32.toUInt32 31)).toInt32 : Int32) ≤ 4) => ?_)
          · refine g_iload_n (pc' := 75) dJ6_numberOfTrailingZeros_0f7a4_74 rfl 1 rfl rfl ?_
            refine g_iload_n (pc' := 76) dJ6_numberOfTrailingZeros_0f7a4_75 rfl 0 rfl rfl ?_
            refine g_iconst (pc' := 77) (v := 1) dJ6_numberOfTrailingZeros_0f7a4_76 rfl (by decide) ?_
            refine g_iushr (pc' := 78) dJ6_numberOfTrailingZeros_0f7a4_77 rfl ?_
            refine g_iadd (pc' := 79) dJ6_numberOfTrailingZeros_0f7a4_78 rfl ?_
            exact g_iret dJ6_numberOfTrailingZeros_0f7a4_79 rfl ⟨rfl, rfl⟩ (by simp only [rJ6_numberOfTrailingZeros_0f7a4, if_pos c1, if_neg c2, if_neg c10, if_pos c14, if_pos c15, bI_t, bI_f])
          · refine g_iinc (pc' := 70) (v := ((1 + 16) + 8) + 2) (lv' := [(1, .int (((1 + 16) + 8) + 2)), (0, .int ((((((x1 ^^^ (-1)) &&& (x1 - 1) : Int32).toUInt32 >>> ((16 : Int32).toUInt32 &&& Int32.toUInt32 31)).toInt32 : Int32).toUInt32 >>> ((8 : Int32).toUInt32 &&& Int32.toUInt32 31)).toInt32))]) dJ6_numberOfTrailingZeros_0f7a4_67 rfl 1 rfl rfl (by decide) rfl ?_
            refine g_iload_n (pc' := 71) dJ6_numberOfTrailingZeros_0f7a4_70 rfl 1 rfl rfl ?_
            refine g_iconst (pc' := 72) (v := 2) dJ6_numberOfTrailingZeros_0f7a4_71 rfl (by decide) ?_
            refine g_iushr (pc' := 73) dJ6_numberOfTrailingZeros_0f7a4_72 rfl ?_
            refine g_istore_n (pc' := 74) (j := 0) (lv' := [(0, .int ((((((((x1 ^^^ (-1)) &&& (x1 - 1) : Int32).toUInt32 >>> ((16 : Int32).toUInt32 &&& Int32.toUInt32 31)).toInt32 : Int32).toUInt32 >>> ((8 : Int32).toUInt32 &&& Int32.toUInt32 31)).toInt32 : Int32).toUInt32 >>> ((2 : Int32).toUInt32 &&& Int32.toUInt32 31)).toInt32)), (1, .int (((1 + 16) + 8) + 2))]) dJ6_numberOfTrailingZeros_0f7a4_73 rfl rfl (by decide) rfl ?_
            refine g_iload_n (pc' := 75) dJ6_numberOfTrailingZeros_0f7a4_74 rfl 1 rfl rfl ?_
            refine g_iload_n (pc' := 76) dJ6_numberOfTrailingZeros_0f7a4_75 rfl 0 rfl rfl ?_
            refine g_iconst (pc' := 77) (v := 1) dJ6_numberOfTrailingZeros_0f7a4_76 rfl (by decide) ?_
            refine g_iushr (pc' := 78) dJ6_numberOfTrailingZeros_0f7a4_77 rfl ?_
            refine g_iadd (pc' := 79) dJ6_numberOfTrailingZeros_0f7a4_78 rfl ?_
            exact g_iret dJ6_numberOfTrailingZeros_0f7a4_79 rfl ⟨rfl, rfl⟩ (by simp only [rJ6_numberOfTrailingZeros_0f7a4, if_pos c1, if_neg c2, if_neg c10, if_pos c14, if_neg c15, bI_t, bI_f])
        · refine g_iinc (pc' := 58) (v := ((1 + 16) + 8) + 4) (lv' := [(1, .int (((1 + 16) + 8) + 4)), (0, .int ((((((x1 ^^^ (-1)) &&& (x1 - 1) : Int32).toUInt32 >>> ((16 : Int32).toUInt32 &&& Int32.toUInt32 31)).toInt32 : Int32).toUInt32 >>> ((8 : Int32).toUInt32 &&& Int32.toUInt32 31)).toInt32))]) dJ6_numberOfTrailingZeros_0f7a4_55 rfl 1 rfl rfl (by decide) rfl ?_
          refine g_iload_n (pc' := 59) dJ6_numberOfTrailingZeros_0f7a4_58 rfl 1 rfl rfl ?_
          refine g_iconst (pc' := 60) (v := 4) dJ6_numberOfTrailingZeros_0f7a4_59 rfl (by decide) ?_
          refine g_iushr (pc' := 61) dJ6_numberOfTrailingZeros_0f7a4_60 rfl ?_
          refine g_istore_n (pc' := 62) (j := 0) (lv' := [(0, .int ((((((((x1 ^^^ (-1)) &&& (x1 - 1) : Int32).toUInt32 >>> ((16 : Int32).toUInt32 &&& Int32.toUInt32 31)).toInt32 : Int32).toUInt32 >>> ((8 : Int32).toUInt32 &&& Int32.toUInt32 31)).toInt32 : Int32).toUInt32 >>> ((4 : Int32).toUInt32 &&& Int32.toUInt32 31)).toInt32)), (1, .int (((1 + 16) + 8) + 4))]) dJ6_numberOfTrailingZeros_0f7a4_61 rfl rfl (by decide) rfl ?_
          refine g_iload_n (pc' := 63) dJ6_numberOfTrailingZeros_0f7a4_62 rfl 0 rfl rfl ?_
          refine g_iconst (pc' := 64) (v := 4) dJ6_numberOfTrailingZeros_0f7a4_63 rfl (by decide) ?_
          refine g_icmp_le (pc' := 67) (tgt := 74) dJ6_numberOfTrailingZeros_0f7a4_64 rfl (by decide) (fun (c16 : ((((((((x1 ^^^ (-1)) &&& (x1 - 1) : Int32).toUInt32 >>> ((16 : Int32).toUInt32 &&& Int32.toUInt32 31)).toInt32 : Int32).toUInt32 >>> ((8 : Int32).toUInt32 &&& Int32.toUInt32 31)).toInt32 : Int32).toUInt32 >>> ((4 : Int32).toUInt32 &&& Int32.toUInt32 31)).toInt32 : Int32) ≤ 4) => ?_) (fun (c16 : ¬ ((((((((x1 ^^^ (-1)) &&& (x1 - 1) : Int32).toUInt32 >>> ((16 : Int32).toUInt32 &&& Int32.toUInt32 31)).toInt32 : Int32).toUInt32 >>> ((8 : Int32).toUInt32 &&& Int32.toUInt32 31)).toInt32 : Int32).toUInt32 >>> ((4 : Int32).toUInt32 &&& Int32.toUInt32 31)).toInt32 : Int32) ≤ 4) => ?_)
          · refine g_iload_n (pc' := 75) dJ6_numberOfTrailingZeros_0f7a4_74 rfl 1 rfl rfl ?_
            refine g_iload_n (pc' := 76) dJ6_numberOfTrailingZeros_0f7a4_75 rfl 0 rfl rfl ?_
            refine g_iconst (pc' := 77) (v := 1) dJ6_numberOfTrailingZeros_0f7a4_76 rfl (by decide) ?_
            refine g_iushr (pc' := 78) dJ6_numberOfTrailingZeros_0f7a4_77 rfl ?_
            refine g_iadd (pc' := 79) dJ6_numberOfTrailingZeros_0f7a4_78 rfl ?_
            exact g_iret dJ6_numberOfTrailingZeros_0f7a4_79 rfl ⟨rfl, rfl⟩ (by simp only [rJ6_numberOfTrailingZeros_0f7a4, if_pos c1, if_neg c2, if_neg c10, if_neg c14, if_pos c16, bI_t, bI_f])
          · refine g_iinc (pc' := 70) (v := (((1 + 16) + 8) + 4) + 2) (lv' := [(1, .int ((((1 + 16) + 8) + 4) + 2)), (0, .int ((((((((x1 ^^^ (-1)) &&& (x1 - 1) : Int32).toUInt32 >>> ((16 : Int32).toUInt32 &&& Int32.toUInt32 31)).toInt32 : Int32).toUInt32 >>> ((8 : Int32).toUInt32 &&& Int32.toUInt32 31)).toInt32 : Int32).toUInt32 >>> ((4 : Int32).toUInt32 &&& Int32.toUInt32 31)).toInt32))]) dJ6_numberOfTrailingZeros_0f7a4_67 rfl 1 rfl rfl (by decide) rfl ?_
            refine g_iload_n (pc' := 71) dJ6_numberOfTrailingZeros_0f7a4_70 rfl 1 rfl rfl ?_
            refine g_iconst (pc' := 72) (v := 2) dJ6_numberOfTrailingZeros_0f7a4_71 rfl (by decide) ?_
            refine g_iushr (pc' := 73) dJ6_numberOfTrailingZeros_0f7a4_72 rfl ?_
            refine g_istore_n (pc' := 74) (j := 0) (lv' := [(0, .int ((((((((((x1 ^^^ (-1)) &&& (x1 - 1) : Int32).toUInt32 >>> ((16 : Int32).toUInt32 &&& Int32.toUInt32 31)).toInt32 : Int32).toUInt32 >>> ((8 : Int32).toUInt32 &&& Int32.toUInt32 31)).toInt32 : Int32).toUInt32 >>> ((4 : Int32).toUInt32 &&& Int32.toUInt32 31)).toInt32 : Int32).toUInt32 >>> ((2 : Int32).toUInt32 &&& Int32.toUInt32 31)).toInt32)), (1, .int ((((1 + 16) + 8) + 4) + 2))]) dJ6_numberOfTrailingZeros_0f7a4_73 rfl rfl (by decide) rfl ?_
            refine g_iload_n (pc' := 75) dJ6_numberOfTrailingZeros_0f7a4_74 rfl 1 rfl rfl ?_
            refine g_iload_n (pc' := 76) dJ6_numberOfTrailingZeros_0f7a4_75 rfl 0 rfl rfl ?_
            refine g_iconst (pc' := 77) (v := 1) dJ6_numberOfTrailingZeros_0f7a4_76 rfl (by decide) ?_
            refine g_iushr (pc' := 78) dJ6_numberOfTrailingZeros_0f7a4_77 rfl ?_
            refine g_iadd (pc' := 79) dJ6_numberOfTrailingZeros_0f7a4_78 rfl ?_
            exact g_iret dJ6_numberOfTrailingZeros_0f7a4_79 rfl ⟨rfl, rfl⟩ (by simp only [rJ6_numberOfTrailingZeros_0f7a4, if_pos c1, if_neg c2, if_neg c10, if_neg c14, if_neg c16, bI_t, bI_f])
  · refine g_iload_n (pc' := 13) dJ6_numberOfTrailingZeros_0f7a4_12 rfl 0 rfl rfl ?_
    refine g_bipush (pc' := 15) (v := 32) dJ6_numberOfTrailingZeros_0f7a4_13 rfl (by decide) ?_
    refine g_iand (pc' := 16) dJ6_numberOfTrailingZeros_0f7a4_15 rfl ?_
    exact g_iret dJ6_numberOfTrailingZeros_0f7a4_16 rfl ⟨rfl, rfl⟩ (by simp only [rJ6_numberOfTrailingZeros_0f7a4, if_neg c1, bI_t, bI_f])
def rJ9_floorDiv_f86c9  (x1 : Int64) (x2 : Int64) (σ : Sg) : Int64 := if (x1 ^^^ x2 : Int64) < 0 then if ((x1 / x2) * x2 : Int64) = x1 then x1 / x2 else (x1 / x2) - 1 else x1 / x2
set_option maxRecDepth 100000 in
set_option maxHeartbeats 4000000 in
theorem ev_J9_floorDiv_f86c9 {l : Launch} {b : Nat} {cy : Nat → ClassId} {D : va_G} {d : Nat}  {x1 : Int64} {x2 : Int64} {σ : Sg}  (h0 : ¬ x2 = 0) : Es l b cy D (d + 0) yJ9_floorDiv_f86c9 cJ9_floorDiv_f86c9 (Option.some Jvm.ClassFile.FieldType.long) 6 [.long (x1), .long (x2)] σ (some (.long (rJ9_floorDiv_f86c9 x1 x2 σ))) σ := by
  refine Ev.ofF (by decide +kernel) (Nat.le_of_ble_eq_true rfl) rfl ?_
  refine g_lload_n (pc' := 1) dJ9_floorDiv_f86c9_0 rfl 0 rfl rfl ?_
  refine g_lload_n (pc' := 2) dJ9_floorDiv_f86c9_1 rfl 1 rfl rfl ?_
  refine g_ldiv (pc' := 3) dJ9_floorDiv_f86c9_2 rfl h0 ?_
  refine g_lstore (pc' := 5) (j := 4) (lv' := [(4, .long (x1 / x2)), (0, .long (x1)), (2, .long (x2))]) dJ9_floorDiv_f86c9_3 rfl (by decide) rfl ?_
  refine g_lload_n (pc' := 6) dJ9_floorDiv_f86c9_5 rfl 1 rfl rfl ?_
  refine g_lload_n (pc' := 7) dJ9_floorDiv_f86c9_6 rfl 2 rfl rfl ?_
  refine g_lxor (pc' := 8) dJ9_floorDiv_f86c9_7 rfl ?_
  refine g_lconst (pc' := 9) (v := 0) dJ9_floorDiv_f86c9_8 rfl (by decide) ?_
  refine g_lif_ge (pc' := 13) (tgt := 27) dJ9_floorDiv_f86c9_9 dJ9_floorDiv_f86c9_10 rfl (by decide) (fun (c1 : ¬ (x1 ^^^ x2 : Int64) < 0) => ?_) (fun (c1 : (x1 ^^^ x2 : Int64) < 0) => ?_)
  · refine g_lload (pc' := 29) dJ9_floorDiv_f86c9_27 rfl 0 rfl ?_
    exact g_lret dJ9_floorDiv_f86c9_29 rfl ⟨rfl, rfl⟩ (by simp only [rJ9_floorDiv_f86c9, if_neg c1, bI_t, bI_f])
  · refine g_lload (pc' := 15) dJ9_floorDiv_f86c9_13 rfl 0 rfl ?_
    refine g_lload_n (pc' := 16) dJ9_floorDiv_f86c9_15 rfl 2 rfl rfl ?_
    refine g_lmul (pc' := 17) dJ9_floorDiv_f86c9_16 rfl ?_
    refine g_lload_n (pc' := 18) dJ9_floorDiv_f86c9_17 rfl 1 rfl rfl ?_
    refine g_lif_eq (pc' := 22) (tgt := 27) dJ9_floorDiv_f86c9_18 dJ9_floorDiv_f86c9_19 rfl (by decide) (fun (c2 : ((x1 / x2) * x2 : Int64) = x1) => ?_) (fun (c2 : ¬ ((x1 / x2) * x2 : Int64) = x1) => ?_)
    · refine g_lload (pc' := 29) dJ9_floorDiv_f86c9_27 rfl 0 rfl ?_
      exact g_lret dJ9_floorDiv_f86c9_29 rfl ⟨rfl, rfl⟩ (by simp only [rJ9_floorDiv_f86c9, if_pos c1, if_pos c2, bI_t, bI_f])
    · refine g_lload (pc' := 24) dJ9_floorDiv_f86c9_22 rfl 0 rfl ?_
      refine g_lconst (pc' := 25) (v := 1) dJ9_floorDiv_f86c9_24 rfl (by decide) ?_
      refine g_lsub (pc' := 26) dJ9_floorDiv_f86c9_25 rfl ?_
      exact g_lret dJ9_floorDiv_f86c9_26 rfl ⟨rfl, rfl⟩ (by simp only [rJ9_floorDiv_f86c9, if_pos c1, if_neg c2, bI_t, bI_f])
def rJ9_floorMod_7cf53  (x1 : Int32) (x2 : Int32) (σ : Sg) : Int32 := if 0 ≤ (x1 ^^^ x2 : Int32) then x1 - x1 / x2 * x2 else if (x1 - x1 / x2 * x2 : Int32) = 0 then x1 - x1 / x2 * x2 else (x1 - x1 / x2 * x2) + x2
set_option maxRecDepth 100000 in
set_option maxHeartbeats 4000000 in
theorem ev_J9_floorMod_7cf53 {l : Launch} {b : Nat} {cy : Nat → ClassId} {D : va_G} {d : Nat}  {x1 : Int32} {x2 : Int32} {σ : Sg}  (h0 : ¬ x2 = 0) : Es l b cy D (d + 0) yJ9_floorMod_7cf53 cJ9_floorMod_7cf53 (Option.some Jvm.ClassFile.FieldType.int) 3 [.int (x1), .int (x2)] σ (some (.int (rJ9_floorMod_7cf53 x1 x2 σ))) σ := by
  refine Ev.ofF (by decide +kernel) (Nat.le_of_ble_eq_true rfl) rfl ?_
  refine g_iload_n (pc' := 1) dJ9_floorMod_7cf53_0 rfl 0 rfl rfl ?_
  refine g_iload_n (pc' := 2) dJ9_floorMod_7cf53_1 rfl 1 rfl rfl ?_
  refine g_irem (pc' := 3) dJ9_floorMod_7cf53_2 rfl h0 ?_
  refine g_istore_n (pc' := 4) (j := 2) (lv' := [(2, .int (x1 - x1 / x2 * x2)), (0, .int (x1)), (1, .int (x2))]) dJ9_floorMod_7cf53_3 rfl rfl (by decide) rfl ?_
  refine g_iload_n (pc' := 5) dJ9_floorMod_7cf53_4 rfl 1 rfl rfl ?_
  refine g_iload_n (pc' := 6) dJ9_floorMod_7cf53_5 rfl 2 rfl rfl ?_
  refine g_ixor (pc' := 7) dJ9_floorMod_7cf53_6 rfl ?_
  refine g_if_ge (pc' := 10) (tgt := 18) dJ9_floorMod_7cf53_7 rfl (by decide) (fun (c1 : 0 ≤ (x1 ^^^ x2 : Int32)) => ?_) (fun (c1 : ¬ 0 ≤ (x1 ^^^ x2 : Int32)) => ?_)
  · refine g_iload_n (pc' := 19) dJ9_floorMod_7cf53_18 rfl 0 rfl rfl ?_
    exact g_iret dJ9_floorMod_7cf53_19 rfl ⟨rfl, rfl⟩ (by simp only [rJ9_floorMod_7cf53, if_pos c1, bI_t, bI_f])
  · refine g_iload_n (pc' := 11) dJ9_floorMod_7cf53_10 rfl 0 rfl rfl ?_
    refine g_if_eq (pc' := 14) (tgt := 18) dJ9_floorMod_7cf53_11 rfl (by decide) (fun (c2 : (x1 - x1 / x2 * x2 : Int32) = 0) => ?_) (fun (c2 : ¬ (x1 - x1 / x2 * x2 : Int32) = 0) => ?_)
    · refine g_iload_n (pc' := 19) dJ9_floorMod_7cf53_18 rfl 0 rfl rfl ?_
      exact g_iret dJ9_floorMod_7cf53_19 rfl ⟨rfl, rfl⟩ (by simp only [rJ9_floorMod_7cf53, if_neg c1, if_pos c2, bI_t, bI_f])
    · refine g_iload_n (pc' := 15) dJ9_floorMod_7cf53_14 rfl 0 rfl rfl ?_
      refine g_iload_n (pc' := 16) dJ9_floorMod_7cf53_15 rfl 2 rfl rfl ?_
      refine g_iadd (pc' := 17) dJ9_floorMod_7cf53_16 rfl ?_
      exact g_iret dJ9_floorMod_7cf53_17 rfl ⟨rfl, rfl⟩ (by simp only [rJ9_floorMod_7cf53, if_neg c1, if_neg c2, bI_t, bI_f])
