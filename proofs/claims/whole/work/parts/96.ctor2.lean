/-! The constructors with loops. -/
theorem iX4_24 : ILk RX4 24 yX5_init cX5_init 1 0 := ⟨Or.inr ⟨"MatrixKin", List.mem_filter.mpr ⟨it1 _ (List.mem_of_getElem? (i := 51) rfl), rfl⟩⟩, (gt_t it1 32 rfl rfl), (gt_t it1 2 rfl rfl), (gt_t it1 33 rfl rfl), rfl, by decide +kernel⟩
theorem qX4_11 : QLk RX4 11 4 0 (.array (.object "MatrixKin$Shelf")) := ⟨_, _, _, rfl, by decide, rfl, rfl, rfl, rfl, (gt_t it1 52 rfl rfl)⟩
theorem iX2_17 : ILk RX2 17 yX3_init cX3_init 1 0 := ⟨Or.inr ⟨"MatrixKin", List.mem_filter.mpr ⟨it1 _ (List.mem_of_getElem? (i := 107) rfl), rfl⟩⟩, (gt_t it1 108 rfl rfl), (gt_t it1 7 rfl rfl), (gt_t it1 109 rfl rfl), rfl, by decide +kernel⟩
theorem qX2_11 : QLk RX2 11 2 0 (.array (.object "MatrixKin$Kin")) := ⟨_, _, _, rfl, by decide, rfl, rfl, rfl, rfl, (gt_t it1 194 rfl rfl)⟩
theorem qX2_18 : QLk RX2 18 2 1 (.object "MatrixKin$Kin") := ⟨_, _, _, rfl, by decide, rfl, rfl, rfl, rfl, (gt_t it1 195 rfl rfl)⟩
theorem iX2_24 : ILk RX2 24 yX6_init cX6_init 1 0 := ⟨Or.inr ⟨"MatrixKin", List.mem_filter.mpr ⟨it1 _ (List.mem_of_getElem? (i := 191) rfl), rfl⟩⟩, (gt_t it1 114 rfl rfl), (gt_t it1 8 rfl rfl), (gt_t it1 115 rfl rfl), rfl, by decide +kernel⟩
theorem qX2_25 : QLk RX2 25 2 2 (.object "MatrixKin$Square") := ⟨_, _, _, rfl, by decide, rfl, rfl, rfl, rfl, (gt_t it1 196 rfl rfl)⟩
theorem qX2_29 : QLk RX2 29 2 3 (.object "MatrixKin$Square") := ⟨_, _, _, rfl, by decide, rfl, rfl, rfl, rfl, (gt_t it1 197 rfl rfl)⟩
theorem qX2_32 : QLk RX2 32 2 4 (.object "MatrixKin$Square") := ⟨_, _, _, rfl, by decide, rfl, rfl, rfl, rfl, (gt_t it1 198 rfl rfl)⟩
theorem iX2_37 : ILk RX2 37 yX9_init cX9_init 1 0 := ⟨Or.inr ⟨"MatrixKin", List.mem_filter.mpr ⟨it1 _ (List.mem_of_getElem? (i := 193) rfl), rfl⟩⟩, (gt_t it1 151 rfl rfl), (gt_t it1 10 rfl rfl), (gt_t it1 152 rfl rfl), rfl, by decide +kernel⟩
theorem qX2_38 : QLk RX2 38 2 5 (.object "MatrixKin$Word") := ⟨_, _, _, rfl, by decide, rfl, rfl, rfl, rfl, (gt_t it1 199 rfl rfl)⟩
theorem iX10_67 : ILk RX10 67 yX1_init cX1_init 1 0 := ⟨Or.inr ⟨"MatrixKin", List.mem_filter.mpr ⟨it1 _ (List.mem_of_getElem? (i := 221) rfl), rfl⟩⟩, (gt_t it1 222 rfl rfl), (gt_t it1 11 rfl rfl), (gt_t it1 223 rfl rfl), rfl, by decide +kernel⟩
theorem iX10_9 : ILk RX10 9 yX5_init cX5_init 1 0 := ⟨Or.inr ⟨"MatrixKin", List.mem_filter.mpr ⟨it1 _ (List.mem_of_getElem? (i := 31) rfl), rfl⟩⟩, (gt_t it1 32 rfl rfl), (gt_t it1 2 rfl rfl), (gt_t it1 33 rfl rfl), rfl, by decide +kernel⟩
theorem qX10_10 : QLk RX10 10 10 0 (.object "MatrixKin$Shelf") := ⟨_, _, _, rfl, by decide, rfl, rfl, rfl, rfl, (gt_t it1 237 rfl rfl)⟩
theorem iX10_18 : ILk RX10 18 yX4_init cX4_init 2 0 := ⟨Or.inl (gt_t it1 45 rfl rfl), (gt_t it1 46 rfl rfl), (gt_t it1 3 rfl rfl), (gt_t it1 47 rfl rfl), rfl, by decide +kernel⟩
theorem qX10_19 : QLk RX10 19 10 1 (.object "MatrixKin$Past") := ⟨_, _, _, rfl, by decide, rfl, rfl, rfl, rfl, (gt_t it1 238 rfl rfl)⟩
theorem iX10_25 : ILk RX10 25 yX7_init cX7_init 1 0 := ⟨Or.inr ⟨"MatrixKin", List.mem_filter.mpr ⟨it1 _ (List.mem_of_getElem? (i := 64) rfl), rfl⟩⟩, (gt_t it1 65 rfl rfl), (gt_t it1 4 rfl rfl), (gt_t it1 66 rfl rfl), rfl, by decide +kernel⟩
theorem qX10_26 : QLk RX10 26 10 2 (.object "MatrixKin$Text") := ⟨_, _, _, rfl, by decide, rfl, rfl, rfl, rfl, (gt_t it1 239 rfl rfl)⟩
theorem iX10_32 : ILk RX10 32 yX0_init cX0_init 1 0 := ⟨Or.inr ⟨"MatrixKin", List.mem_filter.mpr ⟨it1 _ (List.mem_of_getElem? (i := 80) rfl), rfl⟩⟩, (gt_t it1 81 rfl rfl), (gt_t it1 5 rfl rfl), (gt_t it1 82 rfl rfl), rfl, by decide +kernel⟩
theorem qX10_33 : QLk RX10 33 10 3 (.object "MatrixKin$Book") := ⟨_, _, _, rfl, by decide, rfl, rfl, rfl, rfl, (gt_t it2 0 rfl rfl)⟩
theorem iX10_39 : ILk RX10 39 yX2_init cX2_init 2 0 := ⟨Or.inl (gt_t it1 100 rfl rfl), (gt_t it1 101 rfl rfl), (gt_t it1 6 rfl rfl), (gt_t it1 102 rfl rfl), rfl, by decide +kernel⟩
theorem qX10_40 : QLk RX10 40 10 4 (.object "MatrixKin$Judge") := ⟨_, _, _, rfl, by decide, rfl, rfl, rfl, rfl, (gt_t it2 1 rfl rfl)⟩
theorem qX10_46 : QLk RX10 46 10 5 (.array (.object "MatrixKin$Image")) := ⟨_, _, _, rfl, by decide, rfl, rfl, rfl, rfl, (gt_t it2 2 rfl rfl)⟩
theorem iX10_52 : ILk RX10 52 yX6_init cX6_init 1 0 := ⟨Or.inr ⟨"MatrixKin", List.mem_filter.mpr ⟨it1 _ (List.mem_of_getElem? (i := 219) rfl), rfl⟩⟩, (gt_t it1 114 rfl rfl), (gt_t it1 8 rfl rfl), (gt_t it1 115 rfl rfl), rfl, by decide +kernel⟩
theorem qX10_53 : QLk RX10 53 10 6 (.object "MatrixKin$Square") := ⟨_, _, _, rfl, by decide, rfl, rfl, rfl, rfl, (gt_t it2 3 rfl rfl)⟩
theorem qX10_57 : QLk RX10 57 10 7 (.object "MatrixKin$Square") := ⟨_, _, _, rfl, by decide, rfl, rfl, rfl, rfl, (gt_t it2 4 rfl rfl)⟩
theorem qX10_60 : QLk RX10 60 10 8 (.object "MatrixKin$Square") := ⟨_, _, _, rfl, by decide, rfl, rfl, rfl, rfl, (gt_t it2 5 rfl rfl)⟩
def rs4 (i : Nat) : List Nat := (List.range 20).map (fun s => if s < i then 6 + 2 * s else 0)
theorem rs4_set : ∀ i, i < 20 → (rs4 i).set i (5 + 2 * i + 1) = rs4 (i + 1) := by decide
theorem rs4_len (i : Nat) : (rs4 i).length = 20 := by simp [rs4]
theorem F4 : ∀ i, i < 20 → SfF (5 + 2 * i)
  | 0, _ => ⟨rfl, rfl⟩
  | 1, _ => ⟨rfl, rfl⟩
  | 2, _ => ⟨rfl, rfl⟩
  | 3, _ => ⟨rfl, rfl⟩
  | 4, _ => ⟨rfl, rfl⟩
  | 5, _ => ⟨rfl, rfl⟩
  | 6, _ => ⟨rfl, rfl⟩
  | 7, _ => ⟨rfl, rfl⟩
  | 8, _ => ⟨rfl, rfl⟩
  | 9, _ => ⟨rfl, rfl⟩
  | 10, _ => ⟨rfl, rfl⟩
  | 11, _ => ⟨rfl, rfl⟩
  | 12, _ => ⟨rfl, rfl⟩
  | 13, _ => ⟨rfl, rfl⟩
  | 14, _ => ⟨rfl, rfl⟩
  | 15, _ => ⟨rfl, rfl⟩
  | 16, _ => ⟨rfl, rfl⟩
  | 17, _ => ⟨rfl, rfl⟩
  | 18, _ => ⟨rfl, rfl⟩
  | 19, _ => ⟨rfl, rfl⟩
  | u + 20, h => absurd h (by omega)
set_option maxRecDepth 100000 in
set_option maxHeartbeats 4000000 in
theorem lp_c4 {l : Launch} {b : Nat} {cy : Nat → ClassId} {D : va_G} {d : Nat} {sh : Nat → Shp} {σ : Sg} (hz : Zf σ 3) : ∀ (m i kc ks n : Nat), i + m = 20 → kc = 1 + 2 * i → ks = 20 + 50 * i → n = 5 + 2 * i → G l b cy D (rmC (d + 2) 41 1020) yX4_init cX4_init none 2 41 1020 (none, md sh 3 (.inl (4, [7, 0, 0])), 45, σ) 25 [(0, .ref (b + 3)), (1, .int (nI i))] [] kc ks (us (md sh 3 (.inl (4, [7, 0, 0]))) 4 (.inr (3, 20, rs4 i))) n σ := by
  intro m
  induction m with
  | zero =>
    intro i kc ks n hi h1 h2 h3
    subst h1; subst h2; subst h3
    have ei : i = 20 := by omega
    subst ei
    refine g_iload_n (pc' := 26) dX4_init_25 rfl 1 rfl rfl ?_
    refine g_bipush (pc' := 28) (v := nI 20) dX4_init_26 rfl (by decide) ?_
    refine g_icmp_ge (pc' := 31) (tgt := 50) dX4_init_28 rfl (by decide) (fun _ => ?_) (fun c1 => absurd (Int32.le_refl _) c1)
    rw [us_self (show md sh 3 (.inl (4, [7, 0, 0])) 4 = .inr (3, 20, rs4 20) from (md_gt (by omega)).trans rfl)]
    exact g_vret dX4_init_50 rfl ⟨rfl, rfl⟩ rfl
  | succ m ih =>
    intro i kc ks n hi h1 h2 h3
    subst h1; subst h2; subst h3
    have hi2 : i < 20 := by omega
    refine g_iload_n (pc' := 26) dX4_init_25 rfl 1 rfl rfl ?_
    refine g_bipush (pc' := 28) (v := nI 20) dX4_init_26 rfl (by decide) ?_
    refine g_icmp_ge (pc' := 31) (tgt := 50) dX4_init_28 rfl (by decide) (fun c1 => absurd c1 (by rw [Int32.le_iff_toInt_le, nI_int (by omega), nI_int (by omega)]; omega)) (fun _ => ?_)
    refine g_aload_n (pc' := 32) dX4_init_31 rfl 0 rfl rfl ?_
    refine g_getR (pc' := 35) (a := 4) dX4_init_32 rfl (PLk.lf fX4_11) ⟨by omega, (us_ne (by omega)).trans md_at⟩ rfl ?_
    refine g_iload_n (pc' := 36) dX4_init_35 rfl 1 rfl rfl ?_
    refine g_new (pc' := 39) (sh' := us (us (md sh 3 (.inl (4, [7, 0, 0]))) 4 (.inr (3, 20, rs4 i))) (5 + 2 * i) (.inl (5, [2, 0]))) (q0 := [2, 0]) dX4_init_36 rfl (gt_t it1 49 rfl rfl) (gt_t it1 30 rfl rfl) (gt_t it1 2 rfl rfl) rfl rfl (by unfold frs; decide) (hz.le (by omega)) (by show _ < 171; omega) ⟨by show _ ≤ 41; omega, by show _ ≤ 1020; omega⟩ us_eq (fun a ha => us_ne (by omega)) ?_
    refine g_dup (pc' := 40) dX4_init_39 rfl rfl ?_
    have e1 := ev_c5 (l := l) (b := b) (cy := cy) (D := D) (d := d + 0) (k := 5 + 2 * i) (sh := us (us (md sh 3 (.inl (4, [7, 0, 0]))) 4 (.inr (3, 20, rs4 i))) (5 + 2 * i) (.inl (5, [2, 0]))) (σ := σ) (by omega) (hz.le (by omega)) us_eq (F4 i hi2)
    rw [jn_us (fun a ha => by rw [us_ne (by omega)]; exact md_gt (by omega))] at e1
    refine g_init (pc' := 43) dX4_init_40 rfl iX4_24 e1 (rmC_ok (by omega) (by decide)) ⟨rfl, rfl⟩ ⟨by show _ ≤ 41; omega, by show _ ≤ 1020; omega⟩ rfl rfl (Nat.le_of_ble_eq_true rfl) ?_
    refine g_aast (pc' := 44) (k := 4) (t := 3) (z := 20) (j := i) (a := 5 + 2 * i) (ci := 5) (q := rs4 i) (sh' := (us (md sh 3 (.inl (4, [7, 0, 0]))) 4 (.inr (3, 20, rs4 (i + 1))))) dX4_init_43 rfl ⟨by omega, us_eq⟩ (by decide) rfl ⟨by omega, ((us_ne (by omega)).trans (md_gt (by omega))).trans (F4 i hi2).1⟩ rfl (by decide) rfl hi2 (rs4_len i) (by rw [rs4_set i hi2]; exact us_eq) (fun a ha => (us_ne ha).trans (us_ne ha).symm) ?_
    refine g_iinc (pc' := 47) (v := nI (i + 1)) (lv' := [(1, .int (nI (i + 1))), (0, .ref (b + 3))]) dX4_init_44 rfl 1 rfl (nI_1 i) (by decide) rfl ?_
    refine g_goto (tgt := 25) dX4_init_47 (by decide) ?_
    refine g_sub [1, 0] rfl ?_
    exact ih (i + 1) _ _ _ (by omega) (by omega) (by omega) (by omega)
set_option maxRecDepth 100000 in
set_option maxHeartbeats 4000000 in
theorem ev_c4 {l : Launch} {b : Nat} {cy : Nat → ClassId} {D : va_G} {d : Nat} {sh : Nat → Shp} {σ : Sg} (hz : Zf σ 3) (h0 : sh 3 = .inl (4, [2, 0, 0])) : Ev l b cy D (rmC (d + 2) 41 1020) yX4_init cX4_init none 2 41 1020 [.ref (b + 3)] sh (3 + 1) σ (none, jn sh 3, 45, σ) := by
  refine Ev.of (by decide) (Nat.le_of_ble_eq_true rfl) rfl ?_
  refine g_sh (sh' := md sh 3 (.inl (4, [2, 0, 0]))) (md_0 h0) ?_
  rw [md_end (sh := sh) (show shF 3 = .inl (4, _) from rfl)]
  refine g_aload_n (pc' := 1) dX4_init_0 rfl 0 rfl rfl ?_
  refine g_obj (pc' := 4) dX4_init_1 rfl (gt_t it1 48 rfl rfl) (gt_t it1 27 rfl rfl) (gt_t it1 28 rfl rfl) ⟨by show 1 ≤ d + 2; omega, by show 20 ≤ 40 * (d + 2); omega⟩ (Nat.le_of_ble_eq_true rfl) ?_
  refine g_aload_n (pc' := 5) dX4_init_4 rfl 0 rfl rfl ?_
  refine g_bipush (pc' := 7) (v := nI 20) dX4_init_5 rfl (by decide) ?_
  refine g_anew (pc' := 10) (t := 3) (z := 20) (sh' := (us (md sh 3 (.inl (4, [2, 0, 0]))) 4 (.inr (3, 20, List.replicate 20 0)))) dX4_init_7 rfl (gt_t it1 49 rfl rfl) (Or.inl ⟨rfl, rfl⟩) rfl (by decide) (by show _ < 171; omega) ⟨Nat.le_of_ble_eq_true rfl, Nat.le_of_ble_eq_true rfl⟩ us_eq (fun a ha => us_ne (by omega)) ?_
  refine g_putR (pc' := 13) (a := 4) (sh' := (us (md sh 3 (.inl (4, [7, 0, 0]))) 4 (.inr (3, 20, List.replicate 20 0)))) dX4_init_10 rfl qX4_11 rfl ⟨by omega, (us_ne (by omega)).trans md_at⟩ (Nat.le_of_ble_eq_true rfl) (fun _ => ⟨rfl, rfl⟩) ((us_ne (by omega)).trans md_at) (fun a ha => us_md (fun a h9 => md_ne h9) a ha) ?_
  refine g_aload_n (pc' := 14) dX4_init_13 rfl 0 rfl rfl ?_
  refine g_iconst (pc' := 15) (v := (0)) dX4_init_14 rfl (by decide) ?_
  refine g_putI (pc' := 18) dX4_init_15 rfl fX4_17 ⟨by omega, (us_ne (by omega)).trans md_at⟩ rfl ?_
  rw [Zf.u1 hz]
  refine g_aload_n (pc' := 19) dX4_init_18 rfl 0 rfl rfl ?_
  refine g_iconst (pc' := 20) (v := (0)) dX4_init_19 rfl (by decide) ?_
  refine g_putI (pc' := 23) dX4_init_20 rfl fX4_21 ⟨by omega, (us_ne (by omega)).trans md_at⟩ rfl ?_
  rw [Zf.u1 hz]
  refine g_iconst (pc' := 24) (v := nI 0) dX4_init_23 rfl (by decide) ?_
  refine g_istore_n (pc' := 25) (j := 1) (lv' := [(1, .int (nI 0)), (0, .ref (b + 3))]) dX4_init_24 rfl rfl (by decide) rfl ?_
  refine g_sub [1, 0] rfl ?_
  exact lp_c4 hz 20 0 _ _ _ rfl rfl rfl rfl
def rs2 (i : Nat) : List Nat := (List.range 12).map (fun s => if s < i then 66 + 7 * s else 0)
theorem rs2_set : ∀ i, i < 12 → (rs2 i).set i (65 + 7 * i + 1) = rs2 (i + 1) := by decide
theorem rs2_len (i : Nat) : (rs2 i).length = 12 := by simp [rs2]
theorem F2 : ∀ i, i < 12 → KiF (65 + 7 * i)
  | 0, _ => ⟨rfl, rfl, rfl, rfl, rfl, rfl, rfl⟩
  | 1, _ => ⟨rfl, rfl, rfl, rfl, rfl, rfl, rfl⟩
  | 2, _ => ⟨rfl, rfl, rfl, rfl, rfl, rfl, rfl⟩
  | 3, _ => ⟨rfl, rfl, rfl, rfl, rfl, rfl, rfl⟩
  | 4, _ => ⟨rfl, rfl, rfl, rfl, rfl, rfl, rfl⟩
  | 5, _ => ⟨rfl, rfl, rfl, rfl, rfl, rfl, rfl⟩
  | 6, _ => ⟨rfl, rfl, rfl, rfl, rfl, rfl, rfl⟩
  | 7, _ => ⟨rfl, rfl, rfl, rfl, rfl, rfl, rfl⟩
  | 8, _ => ⟨rfl, rfl, rfl, rfl, rfl, rfl, rfl⟩
  | 9, _ => ⟨rfl, rfl, rfl, rfl, rfl, rfl, rfl⟩
  | 10, _ => ⟨rfl, rfl, rfl, rfl, rfl, rfl, rfl⟩
  | 11, _ => ⟨rfl, rfl, rfl, rfl, rfl, rfl, rfl⟩
  | u + 12, h => absurd h (by omega)
set_option maxRecDepth 100000 in
set_option maxHeartbeats 4000000 in
theorem lp_c2 {l : Launch} {b : Nat} {cy : Nat → ClassId} {D : va_G} {d : Nat} {sh : Nat → Shp} {σ : Sg} (hz : Zf σ 51) : ∀ (m i kc ks n : Nat), i + m = 12 → kc = 13 + 7 * i → ks = 91 + 62 * i → n = 65 + 7 * i → G l b cy D (rmC (d + 5) 97 835) yX2_init cX2_init none 2 97 835 (none, md sh 51 (.inl (2, [55, 56, 63, 64, 65, 66, 0])), 149, σ) 75 [(0, .ref (b + 51)), (1, .int (nI i))] [] kc ks (us (md sh 51 (.inl (2, [55, 56, 63, 64, 65, 66, 0]))) 52 (.inr (4, 12, rs2 i))) n σ := by
  intro m
  induction m with
  | zero =>
    intro i kc ks n hi h1 h2 h3
    subst h1; subst h2; subst h3
    have ei : i = 12 := by omega
    subst ei
    refine g_iload_n (pc' := 76) dX2_init_75 rfl 1 rfl rfl ?_
    refine g_bipush (pc' := 78) (v := nI 12) dX2_init_76 rfl (by decide) ?_
    refine g_icmp_ge (pc' := 81) (tgt := 100) dX2_init_78 rfl (by decide) (fun _ => ?_) (fun c1 => absurd (Int32.le_refl _) c1)
    rw [us_self (show md sh 51 (.inl (2, [55, 56, 63, 64, 65, 66, 0])) 52 = .inr (4, 12, rs2 12) from (md_gt (by omega)).trans rfl)]
    exact g_vret dX2_init_100 rfl ⟨rfl, rfl⟩ rfl
  | succ m ih =>
    intro i kc ks n hi h1 h2 h3
    subst h1; subst h2; subst h3
    have hi2 : i < 12 := by omega
    refine g_iload_n (pc' := 76) dX2_init_75 rfl 1 rfl rfl ?_
    refine g_bipush (pc' := 78) (v := nI 12) dX2_init_76 rfl (by decide) ?_
    refine g_icmp_ge (pc' := 81) (tgt := 100) dX2_init_78 rfl (by decide) (fun c1 => absurd c1 (by rw [Int32.le_iff_toInt_le, nI_int (by omega), nI_int (by omega)]; omega)) (fun _ => ?_)
    refine g_aload_n (pc' := 82) dX2_init_81 rfl 0 rfl rfl ?_
    refine g_getR (pc' := 85) (a := 52) dX2_init_82 rfl (PLk.lf fX2_11) ⟨by omega, (us_ne (by omega)).trans md_at⟩ rfl ?_
    refine g_iload_n (pc' := 86) dX2_init_85 rfl 1 rfl rfl ?_
    refine g_new (pc' := 89) (sh' := us (us (md sh 51 (.inl (2, [55, 56, 63, 64, 65, 66, 0]))) 52 (.inr (4, 12, rs2 i))) (65 + 7 * i) (.inl (3, [2, 2, 0, 0]))) (q0 := [2, 2, 0, 0]) dX2_init_86 rfl (gt_t it1 104 rfl rfl) (gt_t it1 106 rfl rfl) (gt_t it1 7 rfl rfl) rfl rfl (by unfold frs; decide) (hz.le (by omega)) (by show _ < 171; omega) ⟨by show _ ≤ 97; omega, by show _ ≤ 835; omega⟩ us_eq (fun a ha => us_ne (by omega)) ?_
    refine g_dup (pc' := 90) dX2_init_89 rfl rfl ?_
    have e1 := ev_c3 (l := l) (b := b) (cy := cy) (D := D) (d := d + 0) (k := 65 + 7 * i) (sh := us (us (md sh 51 (.inl (2, [55, 56, 63, 64, 65, 66, 0]))) 52 (.inr (4, 12, rs2 i))) (65 + 7 * i) (.inl (3, [2, 2, 0, 0]))) (σ := σ) (by omega) (hz.le (by omega)) us_eq (F2 i hi2)
    rw [jn_us (fun a ha => by rw [us_ne (by omega)]; exact md_gt (by omega))] at e1
    refine g_init (pc' := 93) dX2_init_90 rfl iX2_17 e1 (rmC_ok (by omega) (by decide)) ⟨rfl, rfl⟩ ⟨by show _ ≤ 97; omega, by show _ ≤ 835; omega⟩ rfl rfl (Nat.le_of_ble_eq_true rfl) ?_
    refine g_aast (pc' := 94) (k := 52) (t := 4) (z := 12) (j := i) (a := 65 + 7 * i) (ci := 3) (q := rs2 i) (sh' := (us (md sh 51 (.inl (2, [55, 56, 63, 64, 65, 66, 0]))) 52 (.inr (4, 12, rs2 (i + 1))))) dX2_init_93 rfl ⟨by omega, us_eq⟩ (by decide) rfl ⟨by omega, ((us_ne (by omega)).trans (md_gt (by omega))).trans (F2 i hi2).1⟩ rfl (by decide) rfl hi2 (rs2_len i) (by rw [rs2_set i hi2]; exact us_eq) (fun a ha => (us_ne ha).trans (us_ne ha).symm) ?_
    refine g_iinc (pc' := 97) (v := nI (i + 1)) (lv' := [(1, .int (nI (i + 1))), (0, .ref (b + 51))]) dX2_init_94 rfl 1 rfl (nI_1 i) (by decide) rfl ?_
    refine g_goto (tgt := 75) dX2_init_97 (by decide) ?_
    refine g_sub [1, 0] rfl ?_
    exact ih (i + 1) _ _ _ (by omega) (by omega) (by omega) (by omega)
set_option maxRecDepth 100000 in
set_option maxHeartbeats 4000000 in
theorem ev_c2 {l : Launch} {b : Nat} {cy : Nat → ClassId} {D : va_G} {d : Nat} {sh : Nat → Shp} {σ : Sg} (hz : Zf σ 51) (h0 : sh 51 = .inl (2, [2, 2, 2, 2, 2, 2, 0])) : Ev l b cy D (rmC (d + 5) 97 835) yX2_init cX2_init none 2 97 835 [.ref (b + 51)] sh (51 + 1) σ (none, jn sh 51, 149, σ) := by
  refine Ev.of (by decide) (Nat.le_of_ble_eq_true rfl) rfl ?_
  refine g_sh (sh' := md sh 51 (.inl (2, [2, 2, 2, 2, 2, 2, 0]))) (md_0 h0) ?_
  rw [md_end (sh := sh) (show shF 51 = .inl (2, _) from rfl)]
  refine g_aload_n (pc' := 1) dX2_init_0 rfl 0 rfl rfl ?_
  refine g_obj (pc' := 4) dX2_init_1 rfl (gt_t it1 103 rfl rfl) (gt_t it1 27 rfl rfl) (gt_t it1 28 rfl rfl) ⟨by show 1 ≤ d + 5; omega, by show 20 ≤ 40 * (d + 5); omega⟩ (Nat.le_of_ble_eq_true rfl) ?_
  refine g_aload_n (pc' := 5) dX2_init_4 rfl 0 rfl rfl ?_
  refine g_bipush (pc' := 7) (v := nI 12) dX2_init_5 rfl (by decide) ?_
  refine g_anew (pc' := 10) (t := 4) (z := 12) (sh' := (us (md sh 51 (.inl (2, [2, 2, 2, 2, 2, 2, 0]))) 52 (.inr (4, 12, List.replicate 12 0)))) dX2_init_7 rfl (gt_t it1 104 rfl rfl) (Or.inr (Or.inl ⟨rfl, rfl⟩)) rfl (by decide) (by show _ < 171; omega) ⟨Nat.le_of_ble_eq_true rfl, Nat.le_of_ble_eq_true rfl⟩ us_eq (fun a ha => us_ne (by omega)) ?_
  refine g_putR (pc' := 13) (a := 52) (sh' := (us (md sh 51 (.inl (2, [55, 2, 2, 2, 2, 2, 0]))) 52 (.inr (4, 12, List.replicate 12 0)))) dX2_init_10 rfl qX2_11 rfl ⟨by omega, (us_ne (by omega)).trans md_at⟩ (Nat.le_of_ble_eq_true rfl) (fun _ => ⟨rfl, rfl⟩) ((us_ne (by omega)).trans md_at) (fun a ha => us_md (fun a h9 => md_ne h9) a ha) ?_
  refine g_aload_n (pc' := 14) dX2_init_13 rfl 0 rfl rfl ?_
  refine g_new (pc' := 17) (sh' := us (us (md sh 51 (.inl (2, [55, 2, 2, 2, 2, 2, 0]))) 52 (.inr (4, 12, List.replicate 12 0))) 53 (.inl (3, [2, 2, 0, 0]))) (q0 := [2, 2, 0, 0]) dX2_init_14 rfl (gt_t it1 104 rfl rfl) (gt_t it1 106 rfl rfl) (gt_t it1 7 rfl rfl) rfl rfl (by unfold frs; decide) (hz.le (by omega)) (by show _ < 171; omega) ⟨Nat.le_of_ble_eq_true rfl, Nat.le_of_ble_eq_true rfl⟩ us_eq (fun a ha => us_ne (by omega)) ?_
  refine g_dup (pc' := 18) dX2_init_17 rfl rfl ?_
  have e1 := ev_c3 (l := l) (b := b) (cy := cy) (D := D) (d := d + 0) (k := 53) (sh := us (us (md sh 51 (.inl (2, [55, 2, 2, 2, 2, 2, 0]))) 52 (.inr (4, 12, List.replicate 12 0))) 53 (.inl (3, [2, 2, 0, 0]))) (σ := σ) (by omega) (hz.le (by omega)) us_eq (⟨rfl, rfl, rfl, rfl, rfl, rfl, rfl⟩ : KiF 53)
  rw [jn_us (fun a ha => by rw [us_ne (by omega)]; exact md_gt (by omega))] at e1
  refine g_init (pc' := 21) dX2_init_18 rfl iX2_17 e1 (rmC_ok (by omega) (by decide)) ⟨rfl, rfl⟩ ⟨Nat.le_of_ble_eq_true rfl, Nat.le_of_ble_eq_true rfl⟩ rfl rfl (Nat.le_of_ble_eq_true rfl) ?_
  refine g_putR (pc' := 24) (a := 53) (sh' := (us (md sh 51 (.inl (2, [55, 56, 2, 2, 2, 2, 0]))) 52 (.inr (4, 12, List.replicate 12 0)))) dX2_init_21 rfl qX2_18 rfl ⟨by omega, (us_ne (by omega)).trans md_at⟩ (Nat.le_of_ble_eq_true rfl) (fun _ => ⟨rfl, rfl⟩) ((us_ne (by omega)).trans md_at) (fun a ha => us_md (fun a h9 => md_ne h9) a ha) ?_
  refine g_aload_n (pc' := 25) dX2_init_24 rfl 0 rfl rfl ?_
  refine g_new (pc' := 28) (sh' := us (us (md sh 51 (.inl (2, [55, 56, 2, 2, 2, 2, 0]))) 52 (.inr (4, 12, List.replicate 12 0))) 60 (.inl (6, [1, 1, 1, 1]))) (q0 := [1, 1, 1, 1]) dX2_init_25 rfl (gt_t it1 190 rfl rfl) (gt_t it1 112 rfl rfl) (gt_t it1 8 rfl rfl) rfl rfl (by unfold frs; decide) (hz.le (by omega)) (by show _ < 171; omega) ⟨Nat.le_of_ble_eq_true rfl, Nat.le_of_ble_eq_true rfl⟩ us_eq (fun a ha => us_ne (by omega)) ?_
  refine g_dup (pc' := 29) dX2_init_28 rfl rfl ?_
  have e2 := ev_c6 (l := l) (b := b) (cy := cy) (D := D) (d := d + 3) (k := 60) (sh := us (us (md sh 51 (.inl (2, [55, 56, 2, 2, 2, 2, 0]))) 52 (.inr (4, 12, List.replicate 12 0))) 60 (.inl (6, [1, 1, 1, 1]))) (σ := σ) (by omega) (hz.le (by omega)) us_eq (rfl : SqF 60)
  rw [jn_us (fun a ha => by rw [us_ne (by omega)]; exact md_gt (by omega))] at e2
  refine g_init (pc' := 32) dX2_init_29 rfl iX2_24 e2 (rmC_ok (by omega) (by decide)) ⟨rfl, rfl⟩ ⟨Nat.le_of_ble_eq_true rfl, Nat.le_of_ble_eq_true rfl⟩ rfl rfl (Nat.le_of_ble_eq_true rfl) ?_
  refine g_putR (pc' := 35) (a := 60) (sh' := (us (md sh 51 (.inl (2, [55, 56, 63, 2, 2, 2, 0]))) 52 (.inr (4, 12, List.replicate 12 0)))) dX2_init_32 rfl qX2_25 rfl ⟨by omega, (us_ne (by omega)).trans md_at⟩ (Nat.le_of_ble_eq_true rfl) (fun _ => ⟨rfl, rfl⟩) ((us_ne (by omega)).trans md_at) (fun a ha => us_md (fun a h9 => md_ne h9) a ha) ?_
  refine g_aload_n (pc' := 36) dX2_init_35 rfl 0 rfl rfl ?_
  refine g_new (pc' := 39) (sh' := us (us (md sh 51 (.inl (2, [55, 56, 63, 2, 2, 2, 0]))) 52 (.inr (4, 12, List.replicate 12 0))) 61 (.inl (6, [1, 1, 1, 1]))) (q0 := [1, 1, 1, 1]) dX2_init_36 rfl (gt_t it1 190 rfl rfl) (gt_t it1 112 rfl rfl) (gt_t it1 8 rfl rfl) rfl rfl (by unfold frs; decide) (hz.le (by omega)) (by show _ < 171; omega) ⟨Nat.le_of_ble_eq_true rfl, Nat.le_of_ble_eq_true rfl⟩ us_eq (fun a ha => us_ne (by omega)) ?_
  refine g_dup (pc' := 40) dX2_init_39 rfl rfl ?_
  have e3 := ev_c6 (l := l) (b := b) (cy := cy) (D := D) (d := d + 3) (k := 61) (sh := us (us (md sh 51 (.inl (2, [55, 56, 63, 2, 2, 2, 0]))) 52 (.inr (4, 12, List.replicate 12 0))) 61 (.inl (6, [1, 1, 1, 1]))) (σ := σ) (by omega) (hz.le (by omega)) us_eq (rfl : SqF 61)
  rw [jn_us (fun a ha => by rw [us_ne (by omega)]; exact md_gt (by omega))] at e3
  refine g_init (pc' := 43) dX2_init_40 rfl iX2_24 e3 (rmC_ok (by omega) (by decide)) ⟨rfl, rfl⟩ ⟨Nat.le_of_ble_eq_true rfl, Nat.le_of_ble_eq_true rfl⟩ rfl rfl (Nat.le_of_ble_eq_true rfl) ?_
  refine g_putR (pc' := 46) (a := 61) (sh' := (us (md sh 51 (.inl (2, [55, 56, 63, 64, 2, 2, 0]))) 52 (.inr (4, 12, List.replicate 12 0)))) dX2_init_43 rfl qX2_29 rfl ⟨by omega, (us_ne (by omega)).trans md_at⟩ (Nat.le_of_ble_eq_true rfl) (fun _ => ⟨rfl, rfl⟩) ((us_ne (by omega)).trans md_at) (fun a ha => us_md (fun a h9 => md_ne h9) a ha) ?_
  refine g_aload_n (pc' := 47) dX2_init_46 rfl 0 rfl rfl ?_
  refine g_new (pc' := 50) (sh' := us (us (md sh 51 (.inl (2, [55, 56, 63, 64, 2, 2, 0]))) 52 (.inr (4, 12, List.replicate 12 0))) 62 (.inl (6, [1, 1, 1, 1]))) (q0 := [1, 1, 1, 1]) dX2_init_47 rfl (gt_t it1 190 rfl rfl) (gt_t it1 112 rfl rfl) (gt_t it1 8 rfl rfl) rfl rfl (by unfold frs; decide) (hz.le (by omega)) (by show _ < 171; omega) ⟨Nat.le_of_ble_eq_true rfl, Nat.le_of_ble_eq_true rfl⟩ us_eq (fun a ha => us_ne (by omega)) ?_
  refine g_dup (pc' := 51) dX2_init_50 rfl rfl ?_
  have e4 := ev_c6 (l := l) (b := b) (cy := cy) (D := D) (d := d + 3) (k := 62) (sh := us (us (md sh 51 (.inl (2, [55, 56, 63, 64, 2, 2, 0]))) 52 (.inr (4, 12, List.replicate 12 0))) 62 (.inl (6, [1, 1, 1, 1]))) (σ := σ) (by omega) (hz.le (by omega)) us_eq (rfl : SqF 62)
  rw [jn_us (fun a ha => by rw [us_ne (by omega)]; exact md_gt (by omega))] at e4
  refine g_init (pc' := 54) dX2_init_51 rfl iX2_24 e4 (rmC_ok (by omega) (by decide)) ⟨rfl, rfl⟩ ⟨Nat.le_of_ble_eq_true rfl, Nat.le_of_ble_eq_true rfl⟩ rfl rfl (Nat.le_of_ble_eq_true rfl) ?_
  refine g_putR (pc' := 57) (a := 62) (sh' := (us (md sh 51 (.inl (2, [55, 56, 63, 64, 65, 2, 0]))) 52 (.inr (4, 12, List.replicate 12 0)))) dX2_init_54 rfl qX2_32 rfl ⟨by omega, (us_ne (by omega)).trans md_at⟩ (Nat.le_of_ble_eq_true rfl) (fun _ => ⟨rfl, rfl⟩) ((us_ne (by omega)).trans md_at) (fun a ha => us_md (fun a h9 => md_ne h9) a ha) ?_
  refine g_aload_n (pc' := 58) dX2_init_57 rfl 0 rfl rfl ?_
  refine g_new (pc' := 61) (sh' := us (us (md sh 51 (.inl (2, [55, 56, 63, 64, 65, 2, 0]))) 52 (.inr (4, 12, List.replicate 12 0))) 63 (.inl (9, [2]))) (q0 := [2]) dX2_init_58 rfl (gt_t it1 192 rfl rfl) (gt_t it1 149 rfl rfl) (gt_t it1 10 rfl rfl) rfl rfl (by unfold frs; decide) (hz.le (by omega)) (by show _ < 171; omega) ⟨Nat.le_of_ble_eq_true rfl, Nat.le_of_ble_eq_true rfl⟩ us_eq (fun a ha => us_ne (by omega)) ?_
  refine g_dup (pc' := 62) dX2_init_61 rfl rfl ?_
  have e5 := ev_c9 (l := l) (b := b) (cy := cy) (D := D) (d := d + 2) (k := 63) (sh := us (us (md sh 51 (.inl (2, [55, 56, 63, 64, 65, 2, 0]))) 52 (.inr (4, 12, List.replicate 12 0))) 63 (.inl (9, [2]))) (σ := σ) (by omega) (hz.le (by omega)) us_eq (⟨rfl, rfl⟩ : WoF 63)
  rw [jn_us (fun a ha => by rw [us_ne (by omega)]; exact md_gt (by omega))] at e5
  refine g_init (pc' := 65) dX2_init_62 rfl iX2_37 e5 (rmC_ok (by omega) (by decide)) ⟨rfl, rfl⟩ ⟨Nat.le_of_ble_eq_true rfl, Nat.le_of_ble_eq_true rfl⟩ rfl rfl (Nat.le_of_ble_eq_true rfl) ?_
  refine g_putR (pc' := 68) (a := 63) (sh' := (us (md sh 51 (.inl (2, [55, 56, 63, 64, 65, 66, 0]))) 52 (.inr (4, 12, List.replicate 12 0)))) dX2_init_65 rfl qX2_38 rfl ⟨by omega, (us_ne (by omega)).trans md_at⟩ (Nat.le_of_ble_eq_true rfl) (fun _ => ⟨rfl, rfl⟩) ((us_ne (by omega)).trans md_at) (fun a ha => us_md (fun a h9 => md_ne h9) a ha) ?_
  refine g_aload_n (pc' := 69) dX2_init_68 rfl 0 rfl rfl ?_
  refine g_iconst (pc' := 70) (v := (0)) dX2_init_69 rfl (by decide) ?_
  refine g_putI (pc' := 73) dX2_init_70 rfl fX2_42 ⟨by omega, (us_ne (by omega)).trans md_at⟩ rfl ?_
  rw [Zf.u1 hz]
  refine g_iconst (pc' := 74) (v := nI 0) dX2_init_73 rfl (by decide) ?_
  refine g_istore_n (pc' := 75) (j := 1) (lv' := [(1, .int (nI 0)), (0, .ref (b + 51))]) dX2_init_74 rfl rfl (by decide) rfl ?_
  refine g_sub [1, 0] rfl ?_
  exact lp_c2 hz 12 0 _ _ _ rfl rfl rfl rfl
def rs10 (i : Nat) : List Nat := (List.range 2).map (fun s => if s < i then 154 + 3 * s else 0)
theorem rs10_set : ∀ i, i < 2 → (rs10 i).set i (153 + 3 * i + 1) = rs10 (i + 1) := by decide
theorem rs10_len (i : Nat) : (rs10 i).length = 2 := by simp [rs10]
theorem F10 : ∀ i, i < 2 → ImF (153 + 3 * i)
  | 0, _ => ⟨rfl, rfl, rfl⟩
  | 1, _ => ⟨rfl, rfl, rfl⟩
  | u + 2, h => absurd h (by omega)
set_option maxRecDepth 100000 in
set_option maxHeartbeats 4000000 in
theorem lp_c10 {l : Launch} {b : Nat} {cy : Nat → ClassId} {D : va_G} {d : Nat} {sh : Nat → Shp} {σ : Sg} (hz : Zf (u2 σ.1 45 2 (-1), σ.2) 46) : ∀ (m i kc ks n : Nat), i + m = 2 → kc = 152 + 3 * i → ks = 2056 + 53 * i → n = 153 + 3 * i → G l b cy D (rmC (d + 6) 158 2162) yX10_init cX10_init none 2 158 2162 (none, md sh 0 (.inl (10, [4, 6, 48, 50, 54, 152, 153, 154, 155, 0])), 159, (u2 σ.1 45 2 (-1), σ.2)) 107 [(0, .ref (b + 0)), (1, .int (nI i))] [] kc ks (us (md sh 0 (.inl (10, [4, 6, 48, 50, 54, 152, 153, 154, 155, 0]))) 149 (.inr (5, 2, rs10 i))) n (u2 σ.1 45 2 (-1), σ.2) := by
  intro m
  induction m with
  | zero =>
    intro i kc ks n hi h1 h2 h3
    subst h1; subst h2; subst h3
    have ei : i = 2 := by omega
    subst ei
    refine g_iload_n (pc' := 108) dX10_init_107 rfl 1 rfl rfl ?_
    refine g_iconst (pc' := 109) (v := nI 2) dX10_init_108 rfl (by decide) ?_
    refine g_icmp_ge (pc' := 112) (tgt := 131) dX10_init_109 rfl (by decide) (fun _ => ?_) (fun c1 => absurd (Int32.le_refl _) c1)
    rw [us_self (show md sh 0 (.inl (10, [4, 6, 48, 50, 54, 152, 153, 154, 155, 0])) 149 = .inr (5, 2, rs10 2) from (md_gt (by omega)).trans rfl)]
    exact g_vret dX10_init_131 rfl ⟨rfl, rfl⟩ rfl
  | succ m ih =>
    intro i kc ks n hi h1 h2 h3
    subst h1; subst h2; subst h3
    have hi2 : i < 2 := by omega
    refine g_iload_n (pc' := 108) dX10_init_107 rfl 1 rfl rfl ?_
    refine g_iconst (pc' := 109) (v := nI 2) dX10_init_108 rfl (by decide) ?_
    refine g_icmp_ge (pc' := 112) (tgt := 131) dX10_init_109 rfl (by decide) (fun c1 => absurd c1 (by rw [Int32.le_iff_toInt_le, nI_int (by omega), nI_int (by omega)]; omega)) (fun _ => ?_)
    refine g_aload_n (pc' := 113) dX10_init_112 rfl 0 rfl rfl ?_
    refine g_getR (pc' := 116) (a := 149) dX10_init_113 rfl (PLk.lf fX10_46) ⟨by omega, (us_ne (by omega)).trans md_at⟩ rfl ?_
    refine g_iload_n (pc' := 117) dX10_init_116 rfl 1 rfl rfl ?_
    refine g_new (pc' := 120) (sh' := us (us (md sh 0 (.inl (10, [4, 6, 48, 50, 54, 152, 153, 154, 155, 0]))) 149 (.inr (5, 2, rs10 i))) (153 + 3 * i) (.inl (1, [2, 0, 0]))) (q0 := [2, 0, 0]) dX10_init_117 rfl (gt_t it1 216 rfl rfl) (gt_t it1 220 rfl rfl) (gt_t it1 11 rfl rfl) rfl rfl (by unfold frs; decide) (hz.le (by omega)) (by show _ < 171; omega) ⟨by show _ ≤ 158; omega, by show _ ≤ 2162; omega⟩ us_eq (fun a ha => us_ne (by omega)) ?_
    refine g_dup (pc' := 121) dX10_init_120 rfl rfl ?_
    have e1 := ev_c1 (l := l) (b := b) (cy := cy) (D := D) (d := d + 3) (k := 153 + 3 * i) (sh := us (us (md sh 0 (.inl (10, [4, 6, 48, 50, 54, 152, 153, 154, 155, 0]))) 149 (.inr (5, 2, rs10 i))) (153 + 3 * i) (.inl (1, [2, 0, 0]))) (σ := (u2 σ.1 45 2 (-1), σ.2)) (by omega) (hz.le (by omega)) us_eq (F10 i hi2)
    rw [jn_us (fun a ha => by rw [us_ne (by omega)]; exact md_gt (by omega))] at e1
    refine g_init (pc' := 124) dX10_init_121 rfl iX10_67 e1 (rmC_ok (by omega) (by decide)) ⟨rfl, rfl⟩ ⟨by show _ ≤ 158; omega, by show _ ≤ 2162; omega⟩ rfl rfl (Nat.le_of_ble_eq_true rfl) ?_
    refine g_aast (pc' := 125) (k := 149) (t := 5) (z := 2) (j := i) (a := 153 + 3 * i) (ci := 1) (q := rs10 i) (sh' := (us (md sh 0 (.inl (10, [4, 6, 48, 50, 54, 152, 153, 154, 155, 0]))) 149 (.inr (5, 2, rs10 (i + 1))))) dX10_init_124 rfl ⟨by omega, us_eq⟩ (by decide) rfl ⟨by omega, ((us_ne (by omega)).trans (md_gt (by omega))).trans (F10 i hi2).1⟩ rfl (by decide) rfl hi2 (rs10_len i) (by rw [rs10_set i hi2]; exact us_eq) (fun a ha => (us_ne ha).trans (us_ne ha).symm) ?_
    refine g_iinc (pc' := 128) (v := nI (i + 1)) (lv' := [(1, .int (nI (i + 1))), (0, .ref (b + 0))]) dX10_init_125 rfl 1 rfl (nI_1 i) (by decide) rfl ?_
    refine g_goto (tgt := 107) dX10_init_128 (by decide) ?_
    refine g_sub [1, 0] rfl ?_
    exact ih (i + 1) _ _ _ (by omega) (by omega) (by omega) (by omega)
set_option maxRecDepth 100000 in
set_option maxHeartbeats 4000000 in
theorem ev_c10 {l : Launch} {b : Nat} {cy : Nat → ClassId} {D : va_G} {d : Nat} {sh : Nat → Shp} {σ : Sg} (hz : Zf σ 0) (h0 : sh 0 = .inl (10, [2, 2, 2, 2, 2, 2, 2, 2, 2, 0])) : Ev l b cy D (rmC (d + 6) 158 2162) yX10_init cX10_init none 2 158 2162 [.ref (b + 0)] sh (0 + 1) σ (none, jn sh 0, 159, (u2 σ.1 45 2 (-1), σ.2)) := by
  refine Ev.of (by decide) (Nat.le_of_ble_eq_true rfl) rfl ?_
  refine g_sh (sh' := md sh 0 (.inl (10, [2, 2, 2, 2, 2, 2, 2, 2, 2, 0]))) (md_0 h0) ?_
  rw [md_end (sh := sh) (show shF 0 = .inl (10, _) from rfl)]
  refine g_aload_n (pc' := 1) dX10_init_0 rfl 0 rfl rfl ?_
  refine g_obj (pc' := 4) dX10_init_1 rfl (gt_t it1 26 rfl rfl) (gt_t it1 27 rfl rfl) (gt_t it1 28 rfl rfl) ⟨by show 1 ≤ d + 6; omega, by show 20 ≤ 40 * (d + 6); omega⟩ (Nat.le_of_ble_eq_true rfl) ?_
  refine g_aload_n (pc' := 5) dX10_init_4 rfl 0 rfl rfl ?_
  refine g_new (pc' := 8) (sh' := us (md sh 0 (.inl (10, [2, 2, 2, 2, 2, 2, 2, 2, 2, 0]))) 1 (.inl (5, [2, 0]))) (q0 := [2, 0]) dX10_init_5 rfl (gt_t it1 29 rfl rfl) (gt_t it1 30 rfl rfl) (gt_t it1 2 rfl rfl) rfl rfl (by unfold frs; decide) (hz.le (by omega)) (by show _ < 171; omega) ⟨Nat.le_of_ble_eq_true rfl, Nat.le_of_ble_eq_true rfl⟩ us_eq (fun a ha => us_ne (by omega)) ?_
  refine g_dup (pc' := 9) dX10_init_8 rfl rfl ?_
  have e1 := ev_c5 (l := l) (b := b) (cy := cy) (D := D) (d := d + 4) (k := 1) (sh := us (md sh 0 (.inl (10, [2, 2, 2, 2, 2, 2, 2, 2, 2, 0]))) 1 (.inl (5, [2, 0]))) (σ := σ) (by omega) (hz.le (by omega)) us_eq (⟨rfl, rfl⟩ : SfF 1)
  rw [jn_us (fun a ha => md_gt (by omega))] at e1
  refine g_init (pc' := 12) dX10_init_9 rfl iX10_9 e1 (rmC_ok (by omega) (by decide)) ⟨rfl, rfl⟩ ⟨Nat.le_of_ble_eq_true rfl, Nat.le_of_ble_eq_true rfl⟩ rfl rfl (Nat.le_of_ble_eq_true rfl) ?_
  refine g_putR (pc' := 15) (a := 1) (sh' := (md sh 0 (.inl (10, [4, 2, 2, 2, 2, 2, 2, 2, 2, 0])))) dX10_init_12 rfl qX10_10 rfl ⟨by omega, md_at⟩ (Nat.le_of_ble_eq_true rfl) (fun _ => ⟨rfl, rfl⟩) md_at (fun a ha => md_ne ha) ?_
  refine g_aload_n (pc' := 16) dX10_init_15 rfl 0 rfl rfl ?_
  refine g_new (pc' := 19) (sh' := us (md sh 0 (.inl (10, [4, 2, 2, 2, 2, 2, 2, 2, 2, 0]))) 3 (.inl (4, [2, 0, 0]))) (q0 := [2, 0, 0]) dX10_init_16 rfl (gt_t it1 43 rfl rfl) (gt_t it1 44 rfl rfl) (gt_t it1 3 rfl rfl) rfl rfl (by unfold frs; decide) (hz.le (by omega)) (by show _ < 171; omega) ⟨Nat.le_of_ble_eq_true rfl, Nat.le_of_ble_eq_true rfl⟩ us_eq (fun a ha => us_ne (by omega)) ?_
  refine g_dup (pc' := 20) dX10_init_19 rfl rfl ?_
  have e2 := ev_c4 (l := l) (b := b) (cy := cy) (D := D) (d := d + 3) (sh := us (md sh 0 (.inl (10, [4, 2, 2, 2, 2, 2, 2, 2, 2, 0]))) 3 (.inl (4, [2, 0, 0]))) (σ := σ) (hz.le (by omega)) us_eq
  rw [jn_us (fun a ha => md_gt (by omega))] at e2
  refine g_init (pc' := 23) dX10_init_20 rfl iX10_18 e2 (rmC_ok (by omega) (by decide)) ⟨rfl, rfl⟩ ⟨Nat.le_of_ble_eq_true rfl, Nat.le_of_ble_eq_true rfl⟩ rfl rfl (Nat.le_of_ble_eq_true rfl) ?_
  refine g_putR (pc' := 26) (a := 3) (sh' := (md sh 0 (.inl (10, [4, 6, 2, 2, 2, 2, 2, 2, 2, 0])))) dX10_init_23 rfl qX10_19 rfl ⟨by omega, md_at⟩ (Nat.le_of_ble_eq_true rfl) (fun _ => ⟨rfl, rfl⟩) md_at (fun a ha => md_ne ha) ?_
  refine g_aload_n (pc' := 27) dX10_init_26 rfl 0 rfl rfl ?_
  refine g_new (pc' := 30) (sh' := us (md sh 0 (.inl (10, [4, 6, 2, 2, 2, 2, 2, 2, 2, 0]))) 45 (.inl (7, [2, 0, 0]))) (q0 := [2, 0, 0]) dX10_init_27 rfl (gt_t it1 62 rfl rfl) (gt_t it1 63 rfl rfl) (gt_t it1 4 rfl rfl) rfl rfl (by unfold frs; decide) (hz.le (by omega)) (by show _ < 171; omega) ⟨Nat.le_of_ble_eq_true rfl, Nat.le_of_ble_eq_true rfl⟩ us_eq (fun a ha => us_ne (by omega)) ?_
  refine g_dup (pc' := 31) dX10_init_30 rfl rfl ?_
  have e3 := ev_c7 (l := l) (b := b) (cy := cy) (D := D) (d := d + 4) (sh := us (md sh 0 (.inl (10, [4, 6, 2, 2, 2, 2, 2, 2, 2, 0]))) 45 (.inl (7, [2, 0, 0]))) (σ := σ) (hz.le (by omega)) us_eq
  rw [jn_us (fun a ha => md_gt (by omega))] at e3
  refine g_init (pc' := 34) dX10_init_31 rfl iX10_25 e3 (rmC_ok (by omega) (by decide)) ⟨rfl, rfl⟩ ⟨Nat.le_of_ble_eq_true rfl, Nat.le_of_ble_eq_true rfl⟩ rfl rfl (Nat.le_of_ble_eq_true rfl) ?_
  have hz1 : Zf (u2 σ.1 45 2 (-1), σ.2) 46 := Zf_u (hz.le (by omega))
  refine g_putR (pc' := 37) (a := 45) (sh' := (md sh 0 (.inl (10, [4, 6, 48, 2, 2, 2, 2, 2, 2, 0])))) dX10_init_34 rfl qX10_26 rfl ⟨by omega, md_at⟩ (Nat.le_of_ble_eq_true rfl) (fun _ => ⟨rfl, rfl⟩) md_at (fun a ha => md_ne ha) ?_
  refine g_aload_n (pc' := 38) dX10_init_37 rfl 0 rfl rfl ?_
  refine g_new (pc' := 41) (sh' := us (md sh 0 (.inl (10, [4, 6, 48, 2, 2, 2, 2, 2, 2, 0]))) 47 (.inl (0, [2, 2, 2, 0]))) (q0 := [2, 2, 2, 0]) dX10_init_38 rfl (gt_t it1 78 rfl rfl) (gt_t it1 79 rfl rfl) (gt_t it1 5 rfl rfl) rfl rfl (by unfold frs; decide) (hz1.le (by omega)) (by show _ < 171; omega) ⟨Nat.le_of_ble_eq_true rfl, Nat.le_of_ble_eq_true rfl⟩ us_eq (fun a ha => us_ne (by omega)) ?_
  refine g_dup (pc' := 42) dX10_init_41 rfl rfl ?_
  have e4 := ev_c0 (l := l) (b := b) (cy := cy) (D := D) (d := d + 4) (sh := us (md sh 0 (.inl (10, [4, 6, 48, 2, 2, 2, 2, 2, 2, 0]))) 47 (.inl (0, [2, 2, 2, 0]))) (σ := (u2 σ.1 45 2 (-1), σ.2)) (hz1.le (by omega)) us_eq
  rw [jn_us (fun a ha => md_gt (by omega))] at e4
  refine g_init (pc' := 45) dX10_init_42 rfl iX10_32 e4 (rmC_ok (by omega) (by decide)) ⟨rfl, rfl⟩ ⟨Nat.le_of_ble_eq_true rfl, Nat.le_of_ble_eq_true rfl⟩ rfl rfl (Nat.le_of_ble_eq_true rfl) ?_
  refine g_putR (pc' := 48) (a := 47) (sh' := (md sh 0 (.inl (10, [4, 6, 48, 50, 2, 2, 2, 2, 2, 0])))) dX10_init_45 rfl qX10_33 rfl ⟨by omega, md_at⟩ (Nat.le_of_ble_eq_true rfl) (fun _ => ⟨rfl, rfl⟩) md_at (fun a ha => md_ne ha) ?_
  refine g_aload_n (pc' := 49) dX10_init_48 rfl 0 rfl rfl ?_
  refine g_new (pc' := 52) (sh' := us (md sh 0 (.inl (10, [4, 6, 48, 50, 2, 2, 2, 2, 2, 0]))) 51 (.inl (2, [2, 2, 2, 2, 2, 2, 0]))) (q0 := [2, 2, 2, 2, 2, 2, 0]) dX10_init_49 rfl (gt_t it1 98 rfl rfl) (gt_t it1 99 rfl rfl) (gt_t it1 6 rfl rfl) rfl rfl (by unfold frs; decide) (hz1.le (by omega)) (by show _ < 171; omega) ⟨Nat.le_of_ble_eq_true rfl, Nat.le_of_ble_eq_true rfl⟩ us_eq (fun a ha => us_ne (by omega)) ?_
  refine g_dup (pc' := 53) dX10_init_52 rfl rfl ?_
  have e5 := ev_c2 (l := l) (b := b) (cy := cy) (D := D) (d := d + 0) (sh := us (md sh 0 (.inl (10, [4, 6, 48, 50, 2, 2, 2, 2, 2, 0]))) 51 (.inl (2, [2, 2, 2, 2, 2, 2, 0]))) (σ := (u2 σ.1 45 2 (-1), σ.2)) (hz1.le (by omega)) us_eq
  rw [jn_us (fun a ha => md_gt (by omega))] at e5
  refine g_init (pc' := 56) dX10_init_53 rfl iX10_39 e5 (rmC_ok (by omega) (by decide)) ⟨rfl, rfl⟩ ⟨Nat.le_of_ble_eq_true rfl, Nat.le_of_ble_eq_true rfl⟩ rfl rfl (Nat.le_of_ble_eq_true rfl) ?_
  refine g_putR (pc' := 59) (a := 51) (sh' := (md sh 0 (.inl (10, [4, 6, 48, 50, 54, 2, 2, 2, 2, 0])))) dX10_init_56 rfl qX10_40 rfl ⟨by omega, md_at⟩ (Nat.le_of_ble_eq_true rfl) (fun _ => ⟨rfl, rfl⟩) md_at (fun a ha => md_ne ha) ?_
  refine g_aload_n (pc' := 60) dX10_init_59 rfl 0 rfl rfl ?_
  refine g_iconst (pc' := 61) (v := nI 2) dX10_init_60 rfl (by decide) ?_
  refine g_anew (pc' := 64) (t := 5) (z := 2) (sh' := (us (md sh 0 (.inl (10, [4, 6, 48, 50, 54, 2, 2, 2, 2, 0]))) 149 (.inr (5, 2, List.replicate 2 0)))) dX10_init_61 rfl (gt_t it1 216 rfl rfl) (Or.inr (Or.inr ⟨rfl, rfl⟩)) rfl (by decide) (by show _ < 171; omega) ⟨Nat.le_of_ble_eq_true rfl, Nat.le_of_ble_eq_true rfl⟩ us_eq (fun a ha => us_ne (by omega)) ?_
  refine g_putR (pc' := 67) (a := 149) (sh' := (us (md sh 0 (.inl (10, [4, 6, 48, 50, 54, 152, 2, 2, 2, 0]))) 149 (.inr (5, 2, List.replicate 2 0)))) dX10_init_64 rfl qX10_46 rfl ⟨by omega, (us_ne (by omega)).trans md_at⟩ (Nat.le_of_ble_eq_true rfl) (fun _ => ⟨rfl, rfl⟩) ((us_ne (by omega)).trans md_at) (fun a ha => us_md (fun a h9 => md_ne h9) a ha) ?_
  refine g_aload_n (pc' := 68) dX10_init_67 rfl 0 rfl rfl ?_
  refine g_new (pc' := 71) (sh' := us (us (md sh 0 (.inl (10, [4, 6, 48, 50, 54, 152, 2, 2, 2, 0]))) 149 (.inr (5, 2, List.replicate 2 0))) 150 (.inl (6, [1, 1, 1, 1]))) (q0 := [1, 1, 1, 1]) dX10_init_68 rfl (gt_t it1 218 rfl rfl) (gt_t it1 112 rfl rfl) (gt_t it1 8 rfl rfl) rfl rfl (by unfold frs; decide) (hz1.le (by omega)) (by show _ < 171; omega) ⟨Nat.le_of_ble_eq_true rfl, Nat.le_of_ble_eq_true rfl⟩ us_eq (fun a ha => us_ne (by omega)) ?_
  refine g_dup (pc' := 72) dX10_init_71 rfl rfl ?_
  have e6 := ev_c6 (l := l) (b := b) (cy := cy) (D := D) (d := d + 4) (k := 150) (sh := us (us (md sh 0 (.inl (10, [4, 6, 48, 50, 54, 152, 2, 2, 2, 0]))) 149 (.inr (5, 2, List.replicate 2 0))) 150 (.inl (6, [1, 1, 1, 1]))) (σ := (u2 σ.1 45 2 (-1), σ.2)) (by omega) (hz1.le (by omega)) us_eq (rfl : SqF 150)
  rw [jn_us (fun a ha => by rw [us_ne (by omega)]; exact md_gt (by omega))] at e6
  refine g_init (pc' := 75) dX10_init_72 rfl iX10_52 e6 (rmC_ok (by omega) (by decide)) ⟨rfl, rfl⟩ ⟨Nat.le_of_ble_eq_true rfl, Nat.le_of_ble_eq_true rfl⟩ rfl rfl (Nat.le_of_ble_eq_true rfl) ?_
  refine g_putR (pc' := 78) (a := 150) (sh' := (us (md sh 0 (.inl (10, [4, 6, 48, 50, 54, 152, 153, 2, 2, 0]))) 149 (.inr (5, 2, List.replicate 2 0)))) dX10_init_75 rfl qX10_53 rfl ⟨by omega, (us_ne (by omega)).trans md_at⟩ (Nat.le_of_ble_eq_true rfl) (fun _ => ⟨rfl, rfl⟩) ((us_ne (by omega)).trans md_at) (fun a ha => us_md (fun a h9 => md_ne h9) a ha) ?_
  refine g_aload_n (pc' := 79) dX10_init_78 rfl 0 rfl rfl ?_
  refine g_new (pc' := 82) (sh' := us (us (md sh 0 (.inl (10, [4, 6, 48, 50, 54, 152, 153, 2, 2, 0]))) 149 (.inr (5, 2, List.replicate 2 0))) 151 (.inl (6, [1, 1, 1, 1]))) (q0 := [1, 1, 1, 1]) dX10_init_79 rfl (gt_t it1 218 rfl rfl) (gt_t it1 112 rfl rfl) (gt_t it1 8 rfl rfl) rfl rfl (by unfold frs; decide) (hz1.le (by omega)) (by show _ < 171; omega) ⟨Nat.le_of_ble_eq_true rfl, Nat.le_of_ble_eq_true rfl⟩ us_eq (fun a ha => us_ne (by omega)) ?_
  refine g_dup (pc' := 83) dX10_init_82 rfl rfl ?_
  have e7 := ev_c6 (l := l) (b := b) (cy := cy) (D := D) (d := d + 4) (k := 151) (sh := us (us (md sh 0 (.inl (10, [4, 6, 48, 50, 54, 152, 153, 2, 2, 0]))) 149 (.inr (5, 2, List.replicate 2 0))) 151 (.inl (6, [1, 1, 1, 1]))) (σ := (u2 σ.1 45 2 (-1), σ.2)) (by omega) (hz1.le (by omega)) us_eq (rfl : SqF 151)
  rw [jn_us (fun a ha => by rw [us_ne (by omega)]; exact md_gt (by omega))] at e7
  refine g_init (pc' := 86) dX10_init_83 rfl iX10_52 e7 (rmC_ok (by omega) (by decide)) ⟨rfl, rfl⟩ ⟨Nat.le_of_ble_eq_true rfl, Nat.le_of_ble_eq_true rfl⟩ rfl rfl (Nat.le_of_ble_eq_true rfl) ?_
  refine g_putR (pc' := 89) (a := 151) (sh' := (us (md sh 0 (.inl (10, [4, 6, 48, 50, 54, 152, 153, 154, 2, 0]))) 149 (.inr (5, 2, List.replicate 2 0)))) dX10_init_86 rfl qX10_57 rfl ⟨by omega, (us_ne (by omega)).trans md_at⟩ (Nat.le_of_ble_eq_true rfl) (fun _ => ⟨rfl, rfl⟩) ((us_ne (by omega)).trans md_at) (fun a ha => us_md (fun a h9 => md_ne h9) a ha) ?_
  refine g_aload_n (pc' := 90) dX10_init_89 rfl 0 rfl rfl ?_
  refine g_new (pc' := 93) (sh' := us (us (md sh 0 (.inl (10, [4, 6, 48, 50, 54, 152, 153, 154, 2, 0]))) 149 (.inr (5, 2, List.replicate 2 0))) 152 (.inl (6, [1, 1, 1, 1]))) (q0 := [1, 1, 1, 1]) dX10_init_90 rfl (gt_t it1 218 rfl rfl) (gt_t it1 112 rfl rfl) (gt_t it1 8 rfl rfl) rfl rfl (by unfold frs; decide) (hz1.le (by omega)) (by show _ < 171; omega) ⟨Nat.le_of_ble_eq_true rfl, Nat.le_of_ble_eq_true rfl⟩ us_eq (fun a ha => us_ne (by omega)) ?_
  refine g_dup (pc' := 94) dX10_init_93 rfl rfl ?_
  have e8 := ev_c6 (l := l) (b := b) (cy := cy) (D := D) (d := d + 4) (k := 152) (sh := us (us (md sh 0 (.inl (10, [4, 6, 48, 50, 54, 152, 153, 154, 2, 0]))) 149 (.inr (5, 2, List.replicate 2 0))) 152 (.inl (6, [1, 1, 1, 1]))) (σ := (u2 σ.1 45 2 (-1), σ.2)) (by omega) (hz1.le (by omega)) us_eq (rfl : SqF 152)
  rw [jn_us (fun a ha => by rw [us_ne (by omega)]; exact md_gt (by omega))] at e8
  refine g_init (pc' := 97) dX10_init_94 rfl iX10_52 e8 (rmC_ok (by omega) (by decide)) ⟨rfl, rfl⟩ ⟨Nat.le_of_ble_eq_true rfl, Nat.le_of_ble_eq_true rfl⟩ rfl rfl (Nat.le_of_ble_eq_true rfl) ?_
  refine g_putR (pc' := 100) (a := 152) (sh' := (us (md sh 0 (.inl (10, [4, 6, 48, 50, 54, 152, 153, 154, 155, 0]))) 149 (.inr (5, 2, List.replicate 2 0)))) dX10_init_97 rfl qX10_60 rfl ⟨by omega, (us_ne (by omega)).trans md_at⟩ (Nat.le_of_ble_eq_true rfl) (fun _ => ⟨rfl, rfl⟩) ((us_ne (by omega)).trans md_at) (fun a ha => us_md (fun a h9 => md_ne h9) a ha) ?_
  refine g_aload_n (pc' := 101) dX10_init_100 rfl 0 rfl rfl ?_
  refine g_iconst (pc' := 102) (v := (0)) dX10_init_101 rfl (by decide) ?_
  refine g_putI (pc' := 105) dX10_init_102 rfl fX10_63 ⟨by omega, (us_ne (by omega)).trans md_at⟩ rfl ?_
  rw [u2_0 (by dsimp only; rw [u2_k (by omega)]; exact (hz 0 (Nat.le_refl _)).1 9)]
  refine g_iconst (pc' := 106) (v := nI 0) dX10_init_105 rfl (by decide) ?_
  refine g_istore_n (pc' := 107) (j := 1) (lv' := [(1, .int (nI 0)), (0, .ref (b + 0))]) dX10_init_106 rfl rfl (by decide) rfl ?_
  refine g_sub [1, 0] rfl ?_
  exact lp_c10 hz1 2 0 _ _ _ rfl rfl rfl rfl
