/-! The constructors. -/
def rmC (d mc ms : Nat) : Room := { frames := d, cells := mc, slots := ms, locals := 40 * d }
theorem rmC_ok {d d' nL mc ms mc' ms' : Nat} (h : d' + 1 ≤ d) (h2 : nL ≤ 21) : RmO (rmC d mc ms) (rmC d' mc' ms') nL := ⟨h, by show 8 + (nL + 11) + 40 * d' ≤ 40 * d; omega⟩
def jn (sh : Nat → Shp) (k : Nat) : Nat → Shp := fun a => if a < k then sh a else shF a
def md (sh : Nat → Shp) (k : Nat) (x : Shp) : Nat → Shp := fun a => if a < k then sh a else if a = k then x else shF a
theorem md_at {sh : Nat → Shp} {k : Nat} {x : Shp} : md sh k x k = x := by unfold md; rw [if_neg (by omega), if_pos rfl]
theorem md_gt {sh : Nat → Shp} {k a : Nat} {x : Shp} (h : k < a) : md sh k x a = shF a := by unfold md; rw [if_neg (by omega), if_neg (by omega)]
theorem md_lt {sh : Nat → Shp} {k a : Nat} {x : Shp} (h : a < k) : md sh k x a = sh a := by unfold md; rw [if_pos h]
theorem md_ne {sh : Nat → Shp} {k a : Nat} {x x' : Shp} (h : a ≠ k) : md sh k x a = md sh k x' a := by unfold md; rw [if_neg h, if_neg h]
theorem us_md {S S' : Nat → Shp} {k r : Nat} {x : Shp} (h : ∀ a, a ≠ k → S a = S' a) : ∀ a, a ≠ k → us S r x a = us S' r x a := by
  intro a ha
  unfold us
  rw [h a ha]
theorem md_0 {sh : Nat → Shp} {k : Nat} {x : Shp} (h : sh k = x) : ∀ a, a < k + 1 → md sh k x a = sh a := by
  intro a ha
  unfold md
  by_cases h1 : a < k
  · rw [if_pos h1]
  · have : a = k := by omega
    subst this
    rw [if_neg h1, if_pos rfl, h]
theorem md_end {sh : Nat → Shp} {k ci : Nat} {q : List Nat} (h : shF k = .inl (ci, q)) : jn sh k = md sh k (.inl (ci, q)) := by
  funext a
  unfold jn md
  by_cases h1 : a < k
  · rw [if_pos h1, if_pos h1]
  · rw [if_neg h1, if_neg h1]
    by_cases h2 : a = k
    · subst h2; rw [if_pos rfl, h]
    · rw [if_neg h2]
theorem jn_us {S : Nat → Shp} {n : Nat} {x : Shp} (h : ∀ a, n ≤ a → S a = shF a) : jn (us S n x) n = S := by
  funext a
  unfold jn us
  by_cases h1 : a < n
  · rw [if_pos h1, if_neg (by omega)]
  · rw [if_neg h1, h a (by omega)]
theorem us_self {S : Nat → Shp} {r : Nat} {x : Shp} (h : S r = x) : us S r x = S := by
  funext a
  unfold us
  by_cases h1 : a = r
  · subst h1; rw [if_pos rfl, h]
  · rw [if_neg h1]
theorem Zf_u {σ : Sg} {k j : Nat} {v : Int32} (h : Zf σ k) : Zf (u2 σ.1 k j v, σ.2) (k + 1) := fun a ha => ⟨fun i => by show u2 σ.1 k j v a i = 0; rw [u2_k (by omega)]; exact (h a (by omega)).1 i, (h a (by omega)).2⟩
theorem u2_0 {f : Nat → Nat → Int32} {g : Nat → Nat → Int64} {k j : Nat} (h : f k j = 0) : (u2 f k j 0, g) = (f, g) := by
  refine Prod.ext ?_ rfl
  funext a i
  show u2 f k j 0 a i = f a i
  unfold u2
  split
  · next h' => rw [h'.1, h'.2, h]
  · rfl
theorem g_sh {l : Launch} {b : Nat} {cy : Nat → ClassId} {D : va_G} {R : Room} {y : MethodName} {cc : ByteArray} {ret : Option FieldType} {nL mc ms : Nat} {Z : Zt} {pc : Nat} {lv : List (Nat × Value)} {st : List Value} {kc ks : Nat} {sh sh' : Nat → Shp} {n : Nat} {σ : Sg} (h : ∀ a, a < n → sh' a = sh a) (k : G l b cy D R y cc ret nL mc ms Z pc lv st kc ks sh' n σ) : G l b cy D R y cc ret nL mc ms Z pc lv st kc ks sh n σ := by
  intro p e s m args below meth c H locs ls hx hb hr hml hown hts hlk hmn hK hbs hW hS hl
  have e9 : wl b cy sh' n σ = wl b cy sh n σ := by
    unfold wl
    apply List.map_congr_left
    intro a ha
    rw [ce_sh (h a (List.mem_range.mp ha))]
  exact k hx hb hr hml hown hts hlk hmn hK hbs ⟨hW.1, by rw [e9]; exact hW.2⟩ hS hl
def SqF (k : Nat) : Prop := shF k = .inl (6, [1, 1, 1, 1])
def WoF (k : Nat) : Prop := shF k = .inl (9, [k + 4]) ∧ SqF (k + 1)
def WhF (k : Nat) : Prop := shF k = .inl (8, [k + 4, k + 5, k + 6, 0, 0]) ∧ shF (k + 1) = .inr (0, 40, []) ∧ SqF (k + 2) ∧ WoF (k + 3)
def KiF (k : Nat) : Prop := shF k = .inl (3, [k + 4, k + 5, 0, 0]) ∧ SqF (k + 1) ∧ WhF (k + 2)
def SfF (k : Nat) : Prop := shF k = .inl (5, [k + 4, 0]) ∧ shF (k + 1) = .inr (0, 48, [])
def ImF (k : Nat) : Prop := shF k = .inl (1, [k + 4, 0, 0]) ∧ SfF (k + 1)
theorem iX9_11 : ILk RX9 11 yX6_init cX6_init 1 0 := ⟨Or.inr ⟨"MatrixKin", List.mem_filter.mpr ⟨it1 _ (List.mem_of_getElem? (i := 155) rfl), rfl⟩⟩, (gt_t it1 114 rfl rfl), (gt_t it1 8 rfl rfl), (gt_t it1 115 rfl rfl), rfl, by decide +kernel⟩
theorem qX9_12 : QLk RX9 12 9 0 (.object "MatrixKin$Square") := ⟨_, _, _, rfl, by decide, rfl, rfl, rfl, rfl, (gt_t it1 156 rfl rfl)⟩
theorem qX8_9 : QLk RX8 9 8 0 (.array .int) := ⟨_, _, _, rfl, by decide, rfl, rfl, rfl, rfl, (gt_t it1 160 rfl rfl)⟩
theorem iX8_17 : ILk RX8 17 yX6_init cX6_init 1 0 := ⟨Or.inr ⟨"MatrixKin", List.mem_filter.mpr ⟨it1 _ (List.mem_of_getElem? (i := 147) rfl), rfl⟩⟩, (gt_t it1 114 rfl rfl), (gt_t it1 8 rfl rfl), (gt_t it1 115 rfl rfl), rfl, by decide +kernel⟩
theorem qX8_18 : QLk RX8 18 8 1 (.object "MatrixKin$Square") := ⟨_, _, _, rfl, by decide, rfl, rfl, rfl, rfl, (gt_t it1 161 rfl rfl)⟩
theorem iX8_24 : ILk RX8 24 yX9_init cX9_init 1 0 := ⟨Or.inr ⟨"MatrixKin", List.mem_filter.mpr ⟨it1 _ (List.mem_of_getElem? (i := 150) rfl), rfl⟩⟩, (gt_t it1 151 rfl rfl), (gt_t it1 10 rfl rfl), (gt_t it1 152 rfl rfl), rfl, by decide +kernel⟩
theorem qX8_25 : QLk RX8 25 8 2 (.object "MatrixKin$Word") := ⟨_, _, _, rfl, by decide, rfl, rfl, rfl, rfl, (gt_t it1 162 rfl rfl)⟩
theorem iX3_11 : ILk RX3 11 yX6_init cX6_init 1 0 := ⟨Or.inr ⟨"MatrixKin", List.mem_filter.mpr ⟨it1 _ (List.mem_of_getElem? (i := 113) rfl), rfl⟩⟩, (gt_t it1 114 rfl rfl), (gt_t it1 8 rfl rfl), (gt_t it1 115 rfl rfl), rfl, by decide +kernel⟩
theorem qX3_12 : QLk RX3 12 3 0 (.object "MatrixKin$Square") := ⟨_, _, _, rfl, by decide, rfl, rfl, rfl, rfl, (gt_t it1 176 rfl rfl)⟩
theorem iX3_20 : ILk RX3 20 yX8_init cX8_init 1 0 := ⟨Or.inr ⟨"MatrixKin", List.mem_filter.mpr ⟨it1 _ (List.mem_of_getElem? (i := 142) rfl), rfl⟩⟩, (gt_t it1 143 rfl rfl), (gt_t it1 9 rfl rfl), (gt_t it1 144 rfl rfl), rfl, by decide +kernel⟩
theorem qX3_21 : QLk RX3 21 3 1 (.object "MatrixKin$Wheel") := ⟨_, _, _, rfl, by decide, rfl, rfl, rfl, rfl, (gt_t it1 178 rfl rfl)⟩
theorem qX5_11 : QLk RX5 11 5 0 (.array .int) := ⟨_, _, _, rfl, by decide, rfl, rfl, rfl, rfl, (gt_t it1 35 rfl rfl)⟩
theorem iX1_9 : ILk RX1 9 yX5_init cX5_init 1 0 := ⟨Or.inr ⟨"MatrixKin", List.mem_filter.mpr ⟨it1 _ (List.mem_of_getElem? (i := 226) rfl), rfl⟩⟩, (gt_t it1 32 rfl rfl), (gt_t it1 2 rfl rfl), (gt_t it1 33 rfl rfl), rfl, by decide +kernel⟩
theorem qX1_10 : QLk RX1 10 1 0 (.object "MatrixKin$Shelf") := ⟨_, _, _, rfl, by decide, rfl, rfl, rfl, rfl, (gt_t it1 227 rfl rfl)⟩
theorem qX7_9 : QLk RX7 9 7 0 (.array .int) := ⟨_, _, _, rfl, by decide, rfl, rfl, rfl, rfl, (gt_t it1 68 rfl rfl)⟩
theorem qX0_9 : QLk RX0 9 0 0 (.array .int) := ⟨_, _, _, rfl, by decide, rfl, rfl, rfl, rfl, (gt_t it1 84 rfl rfl)⟩
theorem qX0_15 : QLk RX0 15 0 1 (.array .int) := ⟨_, _, _, rfl, by decide, rfl, rfl, rfl, rfl, (gt_t it1 85 rfl rfl)⟩
theorem qX0_18 : QLk RX0 18 0 2 (.array .boolean) := ⟨_, _, _, rfl, by decide, rfl, rfl, rfl, rfl, (gt_t it1 86 rfl rfl)⟩
theorem qX11_7 : QLk RX11 7 11 0 (.array .int) := ⟨_, _, _, rfl, by decide, rfl, rfl, rfl, rfl, (gt_t it4 147 rfl rfl)⟩
theorem qX11_13 : QLk RX11 13 11 1 (.array .int) := ⟨_, _, _, rfl, by decide, rfl, rfl, rfl, rfl, (gt_t it4 148 rfl rfl)⟩
theorem qX11_16 : QLk RX11 16 11 3 (.array .int) := ⟨_, _, _, rfl, by decide, rfl, rfl, rfl, rfl, (gt_t it4 150 rfl rfl)⟩
theorem qX11_19 : QLk RX11 19 11 4 (.array .boolean) := ⟨_, _, _, rfl, by decide, rfl, rfl, rfl, rfl, (gt_t it4 151 rfl rfl)⟩
theorem qX11_23 : QLk RX11 23 11 6 (.array .int) := ⟨_, _, _, rfl, by decide, rfl, rfl, rfl, rfl, (gt_t it4 153 rfl rfl)⟩
theorem qX11_30 : QLk RX11 30 11 9 (.array .int) := ⟨_, _, _, rfl, by decide, rfl, rfl, rfl, rfl, (gt_t it4 156 rfl rfl)⟩
theorem qX11_33 : QLk RX11 33 11 18 (.array .int) := ⟨_, _, _, rfl, by decide, rfl, rfl, rfl, rfl, (gt_t it4 165 rfl rfl)⟩
theorem qX11_36 : QLk RX11 36 11 23 (.array .int) := ⟨_, _, _, rfl, by decide, rfl, rfl, rfl, rfl, (gt_t it4 170 rfl rfl)⟩
theorem qX11_39 : QLk RX11 39 11 24 (.array .int) := ⟨_, _, _, rfl, by decide, rfl, rfl, rfl, rfl, (gt_t it4 171 rfl rfl)⟩
theorem qX11_42 : QLk RX11 42 11 32 (.array .int) := ⟨_, _, _, rfl, by decide, rfl, rfl, rfl, rfl, (gt_t it4 179 rfl rfl)⟩
theorem qX11_45 : QLk RX11 45 11 33 (.array .long) := ⟨_, _, _, rfl, by decide, rfl, rfl, rfl, rfl, (gt_t it4 180 rfl rfl)⟩
set_option maxRecDepth 100000 in
set_option maxHeartbeats 4000000 in
theorem ev_c6 {l : Launch} {b : Nat} {cy : Nat → ClassId} {D : va_G} {d : Nat} {k : Nat} {sh : Nat → Shp} {σ : Sg} (hk : k + 1 ≤ 171) (hz : Zf σ k) (h0 : sh k = .inl (6, [1, 1, 1, 1])) (hF : SqF k) : Ev l b cy D (rmC (d + 1) 0 0) yX6_init cX6_init none 1 0 0 [.ref (b + k)] sh (k + 1) σ (none, jn sh k, k + 1, σ) := by
  refine Ev.of (by decide) (Nat.le_of_ble_eq_true rfl) rfl ?_
  refine g_sh (sh' := md sh k (.inl (6, [1, 1, 1, 1]))) (md_0 h0) ?_
  rw [md_end (sh := sh) hF]
  refine g_aload_n (pc' := 1) dX6_init_0 rfl 0 rfl rfl ?_
  refine g_obj (pc' := 4) dX6_init_1 rfl (gt_t it1 116 rfl rfl) (gt_t it1 27 rfl rfl) (gt_t it1 28 rfl rfl) ⟨by show 1 ≤ d + 1; omega, by show 20 ≤ 40 * (d + 1); omega⟩ (Nat.le_of_ble_eq_true rfl) ?_
  exact g_vret dX6_init_4 rfl ⟨rfl, rfl⟩ rfl
set_option maxRecDepth 100000 in
set_option maxHeartbeats 4000000 in
theorem ev_c9 {l : Launch} {b : Nat} {cy : Nat → ClassId} {D : va_G} {d : Nat} {k : Nat} {sh : Nat → Shp} {σ : Sg} (hk : k + 2 ≤ 171) (hz : Zf σ k) (h0 : sh k = .inl (9, [2])) (hF : WoF k) : Ev l b cy D (rmC (d + 2) 1 4) yX9_init cX9_init none 1 1 4 [.ref (b + k)] sh (k + 1) σ (none, jn sh k, k + 2, σ) := by
  refine Ev.of (by decide) (Nat.le_of_ble_eq_true rfl) rfl ?_
  refine g_sh (sh' := md sh k (.inl (9, [2]))) (md_0 h0) ?_
  rw [md_end (sh := sh) hF.1]
  refine g_aload_n (pc' := 1) dX9_init_0 rfl 0 rfl rfl ?_
  refine g_obj (pc' := 4) dX9_init_1 rfl (gt_t it1 153 rfl rfl) (gt_t it1 27 rfl rfl) (gt_t it1 28 rfl rfl) ⟨by show 1 ≤ d + 2; omega, by show 20 ≤ 40 * (d + 2); omega⟩ (Nat.le_of_ble_eq_true rfl) ?_
  refine g_aload_n (pc' := 5) dX9_init_4 rfl 0 rfl rfl ?_
  refine g_new (pc' := 8) (sh' := us (md sh k (.inl (9, [2]))) (k + 1) (.inl (6, [1, 1, 1, 1]))) (q0 := [1, 1, 1, 1]) dX9_init_5 rfl (gt_t it1 154 rfl rfl) (gt_t it1 112 rfl rfl) (gt_t it1 8 rfl rfl) rfl rfl (by unfold frs; decide) (hz.le (by omega)) (by show _ < 171; omega) ⟨Nat.le_of_ble_eq_true rfl, Nat.le_of_ble_eq_true rfl⟩ us_eq (fun a ha => us_ne (by omega)) ?_
  refine g_dup (pc' := 9) dX9_init_8 rfl rfl ?_
  have e1 := ev_c6 (l := l) (b := b) (cy := cy) (D := D) (d := d + 0) (k := (k + 1)) (sh := us (md sh k (.inl (9, [2]))) (k + 1) (.inl (6, [1, 1, 1, 1]))) (σ := σ) (by omega) (hz.le (by omega)) us_eq hF.2
  rw [jn_us (fun a ha => md_gt (by omega))] at e1
  refine g_init (pc' := 12) dX9_init_9 rfl iX9_11 e1 (rmC_ok (by omega) (by decide)) ⟨rfl, rfl⟩ ⟨Nat.le_of_ble_eq_true rfl, Nat.le_of_ble_eq_true rfl⟩ rfl rfl (Nat.le_of_ble_eq_true rfl) ?_
  refine g_putR (pc' := 15) (a := (k + 1)) (sh' := (md sh k (.inl (9, [k + 4])))) dX9_init_12 rfl qX9_12 rfl ⟨by omega, md_at⟩ (Nat.le_of_ble_eq_true rfl) (fun _ => ⟨rfl, rfl⟩) md_at (fun a ha => md_ne ha) ?_
  exact g_vret dX9_init_15 rfl ⟨rfl, rfl⟩ rfl
set_option maxRecDepth 100000 in
set_option maxHeartbeats 4000000 in
theorem ev_c8 {l : Launch} {b : Nat} {cy : Nat → ClassId} {D : va_G} {d : Nat} {k : Nat} {sh : Nat → Shp} {σ : Sg} (hk : k + 5 ≤ 171) (hz : Zf σ k) (h0 : sh k = .inl (8, [2, 2, 2, 0, 0])) (hF : WhF k) : Ev l b cy D (rmC (d + 3) 4 49) yX8_init cX8_init none 1 4 49 [.ref (b + k)] sh (k + 1) σ (none, jn sh k, k + 5, σ) := by
  refine Ev.of (by decide) (Nat.le_of_ble_eq_true rfl) rfl ?_
  refine g_sh (sh' := md sh k (.inl (8, [2, 2, 2, 0, 0]))) (md_0 h0) ?_
  rw [md_end (sh := sh) hF.1]
  refine g_aload_n (pc' := 1) dX8_init_0 rfl 0 rfl rfl ?_
  refine g_obj (pc' := 4) dX8_init_1 rfl (gt_t it1 145 rfl rfl) (gt_t it1 27 rfl rfl) (gt_t it1 28 rfl rfl) ⟨by show 1 ≤ d + 3; omega, by show 20 ≤ 40 * (d + 3); omega⟩ (Nat.le_of_ble_eq_true rfl) ?_
  refine g_aload_n (pc' := 5) dX8_init_4 rfl 0 rfl rfl ?_
  refine g_bipush (pc' := 7) (v := nI 40) dX8_init_5 rfl (by decide) ?_
  refine g_newarr (pc' := 9) (t := 0) (z := 40) dX8_init_7 rfl (Or.inl ⟨rfl, rfl⟩) (gt_t it1 42 rfl rfl) rfl (by decide) (hz.le (by omega)) (by show _ < 171; omega) ⟨Nat.le_of_ble_eq_true rfl, Nat.le_of_ble_eq_true rfl⟩ ((md_gt (by omega)).trans hF.2.1) ?_
  refine g_putR (pc' := 12) (a := (k + 1)) (sh' := (md sh k (.inl (8, [k + 4, 2, 2, 0, 0])))) dX8_init_9 rfl qX8_9 rfl ⟨by omega, md_at⟩ (Nat.le_of_ble_eq_true rfl) (fun _ => ⟨rfl, rfl⟩) md_at (fun a ha => md_ne ha) ?_
  refine g_aload_n (pc' := 13) dX8_init_12 rfl 0 rfl rfl ?_
  refine g_new (pc' := 16) (sh' := us (md sh k (.inl (8, [k + 4, 2, 2, 0, 0]))) (k + 2) (.inl (6, [1, 1, 1, 1]))) (q0 := [1, 1, 1, 1]) dX8_init_13 rfl (gt_t it1 146 rfl rfl) (gt_t it1 112 rfl rfl) (gt_t it1 8 rfl rfl) rfl rfl (by unfold frs; decide) (hz.le (by omega)) (by show _ < 171; omega) ⟨Nat.le_of_ble_eq_true rfl, Nat.le_of_ble_eq_true rfl⟩ us_eq (fun a ha => us_ne (by omega)) ?_
  refine g_dup (pc' := 17) dX8_init_16 rfl rfl ?_
  have e1 := ev_c6 (l := l) (b := b) (cy := cy) (D := D) (d := d + 1) (k := (k + 2)) (sh := us (md sh k (.inl (8, [k + 4, 2, 2, 0, 0]))) (k + 2) (.inl (6, [1, 1, 1, 1]))) (σ := σ) (by omega) (hz.le (by omega)) us_eq hF.2.2.1
  rw [jn_us (fun a ha => md_gt (by omega))] at e1
  refine g_init (pc' := 20) dX8_init_17 rfl iX8_17 e1 (rmC_ok (by omega) (by decide)) ⟨rfl, rfl⟩ ⟨Nat.le_of_ble_eq_true rfl, Nat.le_of_ble_eq_true rfl⟩ rfl rfl (Nat.le_of_ble_eq_true rfl) ?_
  refine g_putR (pc' := 23) (a := (k + 2)) (sh' := (md sh k (.inl (8, [k + 4, k + 5, 2, 0, 0])))) dX8_init_20 rfl qX8_18 rfl ⟨by omega, md_at⟩ (Nat.le_of_ble_eq_true rfl) (fun _ => ⟨rfl, rfl⟩) md_at (fun a ha => md_ne ha) ?_
  refine g_aload_n (pc' := 24) dX8_init_23 rfl 0 rfl rfl ?_
  refine g_new (pc' := 27) (sh' := us (md sh k (.inl (8, [k + 4, k + 5, 2, 0, 0]))) (k + 3) (.inl (9, [2]))) (q0 := [2]) dX8_init_24 rfl (gt_t it1 148 rfl rfl) (gt_t it1 149 rfl rfl) (gt_t it1 10 rfl rfl) rfl rfl (by unfold frs; decide) (hz.le (by omega)) (by show _ < 171; omega) ⟨Nat.le_of_ble_eq_true rfl, Nat.le_of_ble_eq_true rfl⟩ us_eq (fun a ha => us_ne (by omega)) ?_
  refine g_dup (pc' := 28) dX8_init_27 rfl rfl ?_
  have e2 := ev_c9 (l := l) (b := b) (cy := cy) (D := D) (d := d + 0) (k := (k + 3)) (sh := us (md sh k (.inl (8, [k + 4, k + 5, 2, 0, 0]))) (k + 3) (.inl (9, [2]))) (σ := σ) (by omega) (hz.le (by omega)) us_eq hF.2.2.2
  rw [jn_us (fun a ha => md_gt (by omega))] at e2
  refine g_init (pc' := 31) dX8_init_28 rfl iX8_24 e2 (rmC_ok (by omega) (by decide)) ⟨rfl, rfl⟩ ⟨Nat.le_of_ble_eq_true rfl, Nat.le_of_ble_eq_true rfl⟩ rfl rfl (Nat.le_of_ble_eq_true rfl) ?_
  refine g_putR (pc' := 34) (a := (k + 3)) (sh' := (md sh k (.inl (8, [k + 4, k + 5, k + 6, 0, 0])))) dX8_init_31 rfl qX8_25 rfl ⟨by omega, md_at⟩ (Nat.le_of_ble_eq_true rfl) (fun _ => ⟨rfl, rfl⟩) md_at (fun a ha => md_ne ha) ?_
  refine g_aload_n (pc' := 35) dX8_init_34 rfl 0 rfl rfl ?_
  refine g_iconst (pc' := 36) (v := (0)) dX8_init_35 rfl (by decide) ?_
  refine g_putI (pc' := 39) dX8_init_36 rfl fX8_29 ⟨by omega, md_at⟩ rfl ?_
  rw [Zf.u1 hz]
  refine g_aload_n (pc' := 40) dX8_init_39 rfl 0 rfl rfl ?_
  refine g_iconst (pc' := 41) (v := (0)) dX8_init_40 rfl (by decide) ?_
  refine g_putI (pc' := 44) dX8_init_41 rfl fX8_33 ⟨by omega, md_at⟩ rfl ?_
  rw [Zf.u1 hz]
  exact g_vret dX8_init_44 rfl ⟨rfl, rfl⟩ rfl
set_option maxRecDepth 100000 in
set_option maxHeartbeats 4000000 in
theorem ev_c3 {l : Launch} {b : Nat} {cy : Nat → ClassId} {D : va_G} {d : Nat} {k : Nat} {sh : Nat → Shp} {σ : Sg} (hk : k + 7 ≤ 171) (hz : Zf σ k) (h0 : sh k = .inl (3, [2, 2, 0, 0])) (hF : KiF k) : Ev l b cy D (rmC (d + 4) 6 58) yX3_init cX3_init none 1 6 58 [.ref (b + k)] sh (k + 1) σ (none, jn sh k, k + 7, σ) := by
  refine Ev.of (by decide) (Nat.le_of_ble_eq_true rfl) rfl ?_
  refine g_sh (sh' := md sh k (.inl (3, [2, 2, 0, 0]))) (md_0 h0) ?_
  rw [md_end (sh := sh) hF.1]
  refine g_aload_n (pc' := 1) dX3_init_0 rfl 0 rfl rfl ?_
  refine g_obj (pc' := 4) dX3_init_1 rfl (gt_t it1 110 rfl rfl) (gt_t it1 27 rfl rfl) (gt_t it1 28 rfl rfl) ⟨by show 1 ≤ d + 4; omega, by show 20 ≤ 40 * (d + 4); omega⟩ (Nat.le_of_ble_eq_true rfl) ?_
  refine g_aload_n (pc' := 5) dX3_init_4 rfl 0 rfl rfl ?_
  refine g_new (pc' := 8) (sh' := us (md sh k (.inl (3, [2, 2, 0, 0]))) (k + 1) (.inl (6, [1, 1, 1, 1]))) (q0 := [1, 1, 1, 1]) dX3_init_5 rfl (gt_t it1 111 rfl rfl) (gt_t it1 112 rfl rfl) (gt_t it1 8 rfl rfl) rfl rfl (by unfold frs; decide) (hz.le (by omega)) (by show _ < 171; omega) ⟨Nat.le_of_ble_eq_true rfl, Nat.le_of_ble_eq_true rfl⟩ us_eq (fun a ha => us_ne (by omega)) ?_
  refine g_dup (pc' := 9) dX3_init_8 rfl rfl ?_
  have e1 := ev_c6 (l := l) (b := b) (cy := cy) (D := D) (d := d + 2) (k := (k + 1)) (sh := us (md sh k (.inl (3, [2, 2, 0, 0]))) (k + 1) (.inl (6, [1, 1, 1, 1]))) (σ := σ) (by omega) (hz.le (by omega)) us_eq hF.2.1
  rw [jn_us (fun a ha => md_gt (by omega))] at e1
  refine g_init (pc' := 12) dX3_init_9 rfl iX3_11 e1 (rmC_ok (by omega) (by decide)) ⟨rfl, rfl⟩ ⟨Nat.le_of_ble_eq_true rfl, Nat.le_of_ble_eq_true rfl⟩ rfl rfl (Nat.le_of_ble_eq_true rfl) ?_
  refine g_putR (pc' := 15) (a := (k + 1)) (sh' := (md sh k (.inl (3, [k + 4, 2, 0, 0])))) dX3_init_12 rfl qX3_12 rfl ⟨by omega, md_at⟩ (Nat.le_of_ble_eq_true rfl) (fun _ => ⟨rfl, rfl⟩) md_at (fun a ha => md_ne ha) ?_
  refine g_aload_n (pc' := 16) dX3_init_15 rfl 0 rfl rfl ?_
  refine g_new (pc' := 19) (sh' := us (md sh k (.inl (3, [k + 4, 2, 0, 0]))) (k + 2) (.inl (8, [2, 2, 2, 0, 0]))) (q0 := [2, 2, 2, 0, 0]) dX3_init_16 rfl (gt_t it1 140 rfl rfl) (gt_t it1 141 rfl rfl) (gt_t it1 9 rfl rfl) rfl rfl (by unfold frs; decide) (hz.le (by omega)) (by show _ < 171; omega) ⟨Nat.le_of_ble_eq_true rfl, Nat.le_of_ble_eq_true rfl⟩ us_eq (fun a ha => us_ne (by omega)) ?_
  refine g_dup (pc' := 20) dX3_init_19 rfl rfl ?_
  have e2 := ev_c8 (l := l) (b := b) (cy := cy) (D := D) (d := d + 0) (k := (k + 2)) (sh := us (md sh k (.inl (3, [k + 4, 2, 0, 0]))) (k + 2) (.inl (8, [2, 2, 2, 0, 0]))) (σ := σ) (by omega) (hz.le (by omega)) us_eq hF.2.2
  rw [jn_us (fun a ha => md_gt (by omega))] at e2
  refine g_init (pc' := 23) dX3_init_20 rfl iX3_20 e2 (rmC_ok (by omega) (by decide)) ⟨rfl, rfl⟩ ⟨Nat.le_of_ble_eq_true rfl, Nat.le_of_ble_eq_true rfl⟩ rfl rfl (Nat.le_of_ble_eq_true rfl) ?_
  refine g_putR (pc' := 26) (a := (k + 2)) (sh' := (md sh k (.inl (3, [k + 4, k + 5, 0, 0])))) dX3_init_23 rfl qX3_21 rfl ⟨by omega, md_at⟩ (Nat.le_of_ble_eq_true rfl) (fun _ => ⟨rfl, rfl⟩) md_at (fun a ha => md_ne ha) ?_
  refine g_aload_n (pc' := 27) dX3_init_26 rfl 0 rfl rfl ?_
  refine g_iconst (pc' := 28) (v := (0)) dX3_init_27 rfl (by decide) ?_
  refine g_putI (pc' := 31) dX3_init_28 rfl fX3_25 ⟨by omega, md_at⟩ rfl ?_
  rw [Zf.u1 hz]
  refine g_aload_n (pc' := 32) dX3_init_31 rfl 0 rfl rfl ?_
  refine g_iconst (pc' := 33) (v := (0)) dX3_init_32 rfl (by decide) ?_
  refine g_putI (pc' := 36) dX3_init_33 rfl fX3_29 ⟨by omega, md_at⟩ rfl ?_
  rw [Zf.u1 hz]
  exact g_vret dX3_init_36 rfl ⟨rfl, rfl⟩ rfl
set_option maxRecDepth 100000 in
set_option maxHeartbeats 4000000 in
theorem ev_c5 {l : Launch} {b : Nat} {cy : Nat → ClassId} {D : va_G} {d : Nat} {k : Nat} {sh : Nat → Shp} {σ : Sg} (hk : k + 2 ≤ 171) (hz : Zf σ k) (h0 : sh k = .inl (5, [2, 0])) (hF : SfF k) : Ev l b cy D (rmC (d + 1) 1 48) yX5_init cX5_init none 1 1 48 [.ref (b + k)] sh (k + 1) σ (none, jn sh k, k + 2, σ) := by
  refine Ev.of (by decide) (Nat.le_of_ble_eq_true rfl) rfl ?_
  refine g_sh (sh' := md sh k (.inl (5, [2, 0]))) (md_0 h0) ?_
  rw [md_end (sh := sh) hF.1]
  refine g_aload_n (pc' := 1) dX5_init_0 rfl 0 rfl rfl ?_
  refine g_obj (pc' := 4) dX5_init_1 rfl (gt_t it1 34 rfl rfl) (gt_t it1 27 rfl rfl) (gt_t it1 28 rfl rfl) ⟨by show 1 ≤ d + 1; omega, by show 20 ≤ 40 * (d + 1); omega⟩ (Nat.le_of_ble_eq_true rfl) ?_
  refine g_aload_n (pc' := 5) dX5_init_4 rfl 0 rfl rfl ?_
  refine g_bipush (pc' := 7) (v := nI 48) dX5_init_5 rfl (by decide) ?_
  refine g_newarr (pc' := 9) (t := 0) (z := 48) dX5_init_7 rfl (Or.inl ⟨rfl, rfl⟩) (gt_t it1 42 rfl rfl) rfl (by decide) (hz.le (by omega)) (by show _ < 171; omega) ⟨Nat.le_of_ble_eq_true rfl, Nat.le_of_ble_eq_true rfl⟩ ((md_gt (by omega)).trans hF.2) ?_
  refine g_putR (pc' := 12) (a := (k + 1)) (sh' := (md sh k (.inl (5, [k + 4, 0])))) dX5_init_9 rfl qX5_11 rfl ⟨by omega, md_at⟩ (Nat.le_of_ble_eq_true rfl) (fun _ => ⟨rfl, rfl⟩) md_at (fun a ha => md_ne ha) ?_
  refine g_aload_n (pc' := 13) dX5_init_12 rfl 0 rfl rfl ?_
  refine g_iconst (pc' := 14) (v := (0)) dX5_init_13 rfl (by decide) ?_
  refine g_putI (pc' := 17) dX5_init_14 rfl fX5_15 ⟨by omega, md_at⟩ rfl ?_
  rw [Zf.u1 hz]
  exact g_vret dX5_init_17 rfl ⟨rfl, rfl⟩ rfl
set_option maxRecDepth 100000 in
set_option maxHeartbeats 4000000 in
theorem ev_c1 {l : Launch} {b : Nat} {cy : Nat → ClassId} {D : va_G} {d : Nat} {k : Nat} {sh : Nat → Shp} {σ : Sg} (hk : k + 3 ≤ 171) (hz : Zf σ k) (h0 : sh k = .inl (1, [2, 0, 0])) (hF : ImF k) : Ev l b cy D (rmC (d + 2) 2 50) yX1_init cX1_init none 1 2 50 [.ref (b + k)] sh (k + 1) σ (none, jn sh k, k + 3, σ) := by
  refine Ev.of (by decide) (Nat.le_of_ble_eq_true rfl) rfl ?_
  refine g_sh (sh' := md sh k (.inl (1, [2, 0, 0]))) (md_0 h0) ?_
  rw [md_end (sh := sh) hF.1]
  refine g_aload_n (pc' := 1) dX1_init_0 rfl 0 rfl rfl ?_
  refine g_obj (pc' := 4) dX1_init_1 rfl (gt_t it1 224 rfl rfl) (gt_t it1 27 rfl rfl) (gt_t it1 28 rfl rfl) ⟨by show 1 ≤ d + 2; omega, by show 20 ≤ 40 * (d + 2); omega⟩ (Nat.le_of_ble_eq_true rfl) ?_
  refine g_aload_n (pc' := 5) dX1_init_4 rfl 0 rfl rfl ?_
  refine g_new (pc' := 8) (sh' := us (md sh k (.inl (1, [2, 0, 0]))) (k + 1) (.inl (5, [2, 0]))) (q0 := [2, 0]) dX1_init_5 rfl (gt_t it1 225 rfl rfl) (gt_t it1 30 rfl rfl) (gt_t it1 2 rfl rfl) rfl rfl (by unfold frs; decide) (hz.le (by omega)) (by show _ < 171; omega) ⟨Nat.le_of_ble_eq_true rfl, Nat.le_of_ble_eq_true rfl⟩ us_eq (fun a ha => us_ne (by omega)) ?_
  refine g_dup (pc' := 9) dX1_init_8 rfl rfl ?_
  have e1 := ev_c5 (l := l) (b := b) (cy := cy) (D := D) (d := d + 0) (k := (k + 1)) (sh := us (md sh k (.inl (1, [2, 0, 0]))) (k + 1) (.inl (5, [2, 0]))) (σ := σ) (by omega) (hz.le (by omega)) us_eq hF.2
  rw [jn_us (fun a ha => md_gt (by omega))] at e1
  refine g_init (pc' := 12) dX1_init_9 rfl iX1_9 e1 (rmC_ok (by omega) (by decide)) ⟨rfl, rfl⟩ ⟨Nat.le_of_ble_eq_true rfl, Nat.le_of_ble_eq_true rfl⟩ rfl rfl (Nat.le_of_ble_eq_true rfl) ?_
  refine g_putR (pc' := 15) (a := (k + 1)) (sh' := (md sh k (.inl (1, [k + 4, 0, 0])))) dX1_init_12 rfl qX1_10 rfl ⟨by omega, md_at⟩ (Nat.le_of_ble_eq_true rfl) (fun _ => ⟨rfl, rfl⟩) md_at (fun a ha => md_ne ha) ?_
  refine g_aload_n (pc' := 16) dX1_init_15 rfl 0 rfl rfl ?_
  refine g_iconst (pc' := 17) (v := (0)) dX1_init_16 rfl (by decide) ?_
  refine g_putI (pc' := 20) dX1_init_17 rfl fX1_16 ⟨by omega, md_at⟩ rfl ?_
  rw [Zf.u1 hz]
  refine g_aload_n (pc' := 21) dX1_init_20 rfl 0 rfl rfl ?_
  refine g_iconst (pc' := 22) (v := (0)) dX1_init_21 rfl (by decide) ?_
  refine g_putZ (pc' := 25) dX1_init_22 rfl fX1_20 (Or.inl rfl) ⟨by omega, md_at⟩ rfl ?_
  rw [Zf.u1 hz]
  exact g_vret dX1_init_25 rfl ⟨rfl, rfl⟩ rfl
set_option maxRecDepth 100000 in
set_option maxHeartbeats 4000000 in
theorem ev_c7 {l : Launch} {b : Nat} {cy : Nat → ClassId} {D : va_G} {d : Nat} {sh : Nat → Shp} {σ : Sg} (hz : Zf σ 45) (h0 : sh 45 = .inl (7, [2, 0, 0])) : Ev l b cy D (rmC (d + 1) 1 60) yX7_init cX7_init none 1 1 60 [.ref (b + 45)] sh (45 + 1) σ (none, jn sh 45, 47, (u2 σ.1 45 2 (-1), σ.2)) := by
  refine Ev.of (by decide) (Nat.le_of_ble_eq_true rfl) rfl ?_
  refine g_sh (sh' := md sh 45 (.inl (7, [2, 0, 0]))) (md_0 h0) ?_
  rw [md_end (sh := sh) (show shF 45 = .inl (7, _) from rfl)]
  refine g_aload_n (pc' := 1) dX7_init_0 rfl 0 rfl rfl ?_
  refine g_obj (pc' := 4) dX7_init_1 rfl (gt_t it1 67 rfl rfl) (gt_t it1 27 rfl rfl) (gt_t it1 28 rfl rfl) ⟨by show 1 ≤ d + 1; omega, by show 20 ≤ 40 * (d + 1); omega⟩ (Nat.le_of_ble_eq_true rfl) ?_
  refine g_aload_n (pc' := 5) dX7_init_4 rfl 0 rfl rfl ?_
  refine g_bipush (pc' := 7) (v := nI 60) dX7_init_5 rfl (by decide) ?_
  refine g_newarr (pc' := 9) (t := 0) (z := 60) dX7_init_7 rfl (Or.inl ⟨rfl, rfl⟩) (gt_t it1 42 rfl rfl) rfl (by decide) (hz.le (by omega)) (by show _ < 171; omega) ⟨Nat.le_of_ble_eq_true rfl, Nat.le_of_ble_eq_true rfl⟩ ((md_gt (by omega)).trans rfl) ?_
  refine g_putR (pc' := 12) (a := 46) (sh' := (md sh 45 (.inl (7, [49, 0, 0])))) dX7_init_9 rfl qX7_9 rfl ⟨by omega, md_at⟩ (Nat.le_of_ble_eq_true rfl) (fun _ => ⟨rfl, rfl⟩) md_at (fun a ha => md_ne ha) ?_
  refine g_aload_n (pc' := 13) dX7_init_12 rfl 0 rfl rfl ?_
  refine g_iconst (pc' := 14) (v := (0)) dX7_init_13 rfl (by decide) ?_
  refine g_putI (pc' := 17) dX7_init_14 rfl fX7_15 ⟨by omega, md_at⟩ rfl ?_
  rw [Zf.u1 hz]
  refine g_aload_n (pc' := 18) dX7_init_17 rfl 0 rfl rfl ?_
  refine g_iconst (pc' := 19) (v := (-1)) dX7_init_18 rfl (by decide) ?_
  refine g_putI (pc' := 22) dX7_init_19 rfl fX7_19 ⟨by omega, md_at⟩ rfl ?_
  have hz1 : Zf (u2 σ.1 45 2 (-1), σ.2) 46 := Zf_u hz
  exact g_vret dX7_init_22 rfl ⟨rfl, rfl⟩ rfl
set_option maxRecDepth 100000 in
set_option maxHeartbeats 4000000 in
theorem ev_c0 {l : Launch} {b : Nat} {cy : Nat → ClassId} {D : va_G} {d : Nat} {sh : Nat → Shp} {σ : Sg} (hz : Zf σ 47) (h0 : sh 47 = .inl (0, [2, 2, 2, 0])) : Ev l b cy D (rmC (d + 1) 3 60) yX0_init cX0_init none 1 3 60 [.ref (b + 47)] sh (47 + 1) σ (none, jn sh 47, 51, σ) := by
  refine Ev.of (by decide) (Nat.le_of_ble_eq_true rfl) rfl ?_
  refine g_sh (sh' := md sh 47 (.inl (0, [2, 2, 2, 0]))) (md_0 h0) ?_
  rw [md_end (sh := sh) (show shF 47 = .inl (0, _) from rfl)]
  refine g_aload_n (pc' := 1) dX0_init_0 rfl 0 rfl rfl ?_
  refine g_obj (pc' := 4) dX0_init_1 rfl (gt_t it1 83 rfl rfl) (gt_t it1 27 rfl rfl) (gt_t it1 28 rfl rfl) ⟨by show 1 ≤ d + 1; omega, by show 20 ≤ 40 * (d + 1); omega⟩ (Nat.le_of_ble_eq_true rfl) ?_
  refine g_aload_n (pc' := 5) dX0_init_4 rfl 0 rfl rfl ?_
  refine g_bipush (pc' := 7) (v := nI 20) dX0_init_5 rfl (by decide) ?_
  refine g_newarr (pc' := 9) (t := 0) (z := 20) dX0_init_7 rfl (Or.inl ⟨rfl, rfl⟩) (gt_t it1 42 rfl rfl) rfl (by decide) (hz.le (by omega)) (by show _ < 171; omega) ⟨Nat.le_of_ble_eq_true rfl, Nat.le_of_ble_eq_true rfl⟩ ((md_gt (by omega)).trans rfl) ?_
  refine g_putR (pc' := 12) (a := 48) (sh' := (md sh 47 (.inl (0, [51, 2, 2, 0])))) dX0_init_9 rfl qX0_9 rfl ⟨by omega, md_at⟩ (Nat.le_of_ble_eq_true rfl) (fun _ => ⟨rfl, rfl⟩) md_at (fun a ha => md_ne ha) ?_
  refine g_aload_n (pc' := 13) dX0_init_12 rfl 0 rfl rfl ?_
  refine g_bipush (pc' := 15) (v := nI 20) dX0_init_13 rfl (by decide) ?_
  refine g_newarr (pc' := 17) (t := 0) (z := 20) dX0_init_15 rfl (Or.inl ⟨rfl, rfl⟩) (gt_t it1 42 rfl rfl) rfl (by decide) (hz.le (by omega)) (by show _ < 171; omega) ⟨Nat.le_of_ble_eq_true rfl, Nat.le_of_ble_eq_true rfl⟩ ((md_gt (by omega)).trans rfl) ?_
  refine g_putR (pc' := 20) (a := 49) (sh' := (md sh 47 (.inl (0, [51, 52, 2, 0])))) dX0_init_17 rfl qX0_15 rfl ⟨by omega, md_at⟩ (Nat.le_of_ble_eq_true rfl) (fun _ => ⟨rfl, rfl⟩) md_at (fun a ha => md_ne ha) ?_
  refine g_aload_n (pc' := 21) dX0_init_20 rfl 0 rfl rfl ?_
  refine g_bipush (pc' := 23) (v := nI 20) dX0_init_21 rfl (by decide) ?_
  refine g_newarr (pc' := 25) (t := 2) (z := 20) dX0_init_23 rfl (Or.inr (Or.inr ⟨rfl, rfl⟩)) (gt_t it1 97 rfl rfl) rfl (by decide) (hz.le (by omega)) (by show _ < 171; omega) ⟨Nat.le_of_ble_eq_true rfl, Nat.le_of_ble_eq_true rfl⟩ ((md_gt (by omega)).trans rfl) ?_
  refine g_putR (pc' := 28) (a := 50) (sh' := (md sh 47 (.inl (0, [51, 52, 53, 0])))) dX0_init_25 rfl qX0_18 rfl ⟨by omega, md_at⟩ (Nat.le_of_ble_eq_true rfl) (fun _ => ⟨rfl, rfl⟩) md_at (fun a ha => md_ne ha) ?_
  refine g_aload_n (pc' := 29) dX0_init_28 rfl 0 rfl rfl ?_
  refine g_iconst (pc' := 30) (v := (0)) dX0_init_29 rfl (by decide) ?_
  refine g_putI (pc' := 33) dX0_init_30 rfl fX0_22 ⟨by omega, md_at⟩ rfl ?_
  rw [Zf.u1 hz]
  exact g_vret dX0_init_33 rfl ⟨rfl, rfl⟩ rfl
set_option maxRecDepth 100000 in
set_option maxHeartbeats 4000000 in
theorem ev_c11 {l : Launch} {b : Nat} {cy : Nat → ClassId} {D : va_G} {d : Nat} {sh : Nat → Shp} {σ : Sg} (hz : Zf σ 159) (h0 : sh 159 = .inl (11, [2, 2, 0, 2, 2, 0, 2, 0, 0, 2, 0, 1, 1, 1, 1, 0, 1, 1, 2, 0, 0, 1, 1, 2, 2, 0, 0, 1, 1, 0, 0, 1, 2, 2])) : Ev l b cy D (rmC (d + 1) 11 1511) yX11_init cX11_init none 1 11 1511 [.ref (b + 159)] sh (159 + 1) σ (none, jn sh 159, 171, (u2 σ.1 159 8 (-1), σ.2)) := by
  refine Ev.of (by decide) (Nat.le_of_ble_eq_true rfl) rfl ?_
  refine g_sh (sh' := md sh 159 (.inl (11, [2, 2, 0, 2, 2, 0, 2, 0, 0, 2, 0, 1, 1, 1, 1, 0, 1, 1, 2, 0, 0, 1, 1, 2, 2, 0, 0, 1, 1, 0, 0, 1, 2, 2]))) (md_0 h0) ?_
  rw [md_end (sh := sh) (show shF 159 = .inl (11, _) from rfl)]
  refine g_aload_n (pc' := 1) dX11_init_0 rfl 0 rfl rfl ?_
  refine g_obj (pc' := 4) dX11_init_1 rfl (gt_t it4 146 rfl rfl) (gt_t it1 27 rfl rfl) (gt_t it1 28 rfl rfl) ⟨by show 1 ≤ d + 1; omega, by show 20 ≤ 40 * (d + 1); omega⟩ (Nat.le_of_ble_eq_true rfl) ?_
  refine g_aload_n (pc' := 5) dX11_init_4 rfl 0 rfl rfl ?_
  refine g_bipush (pc' := 7) (v := nI 49) dX11_init_5 rfl (by decide) ?_
  refine g_newarr (pc' := 9) (t := 0) (z := 49) dX11_init_7 rfl (Or.inl ⟨rfl, rfl⟩) (gt_t it1 42 rfl rfl) rfl (by decide) (hz.le (by omega)) (by show _ < 171; omega) ⟨Nat.le_of_ble_eq_true rfl, Nat.le_of_ble_eq_true rfl⟩ ((md_gt (by omega)).trans rfl) ?_
  refine g_putR (pc' := 12) (a := 160) (sh' := (md sh 159 (.inl (11, [163, 2, 0, 2, 2, 0, 2, 0, 0, 2, 0, 1, 1, 1, 1, 0, 1, 1, 2, 0, 0, 1, 1, 2, 2, 0, 0, 1, 1, 0, 0, 1, 2, 2])))) dX11_init_9 rfl qX11_7 rfl ⟨by omega, md_at⟩ (Nat.le_of_ble_eq_true rfl) (fun _ => ⟨rfl, rfl⟩) md_at (fun a ha => md_ne ha) ?_
  refine g_aload_n (pc' := 13) dX11_init_12 rfl 0 rfl rfl ?_
  refine g_sipush (pc' := 16) (v := nI 980) dX11_init_13 rfl (by decide) ?_
  refine g_newarr (pc' := 18) (t := 0) (z := 980) dX11_init_16 rfl (Or.inl ⟨rfl, rfl⟩) (gt_t it1 42 rfl rfl) rfl (by decide) (hz.le (by omega)) (by show _ < 171; omega) ⟨Nat.le_of_ble_eq_true rfl, Nat.le_of_ble_eq_true rfl⟩ ((md_gt (by omega)).trans rfl) ?_
  refine g_putR (pc' := 21) (a := 161) (sh' := (md sh 159 (.inl (11, [163, 164, 0, 2, 2, 0, 2, 0, 0, 2, 0, 1, 1, 1, 1, 0, 1, 1, 2, 0, 0, 1, 1, 2, 2, 0, 0, 1, 1, 0, 0, 1, 2, 2])))) dX11_init_18 rfl qX11_13 rfl ⟨by omega, md_at⟩ (Nat.le_of_ble_eq_true rfl) (fun _ => ⟨rfl, rfl⟩) md_at (fun a ha => md_ne ha) ?_
  refine g_aload_n (pc' := 22) dX11_init_21 rfl 0 rfl rfl ?_
  refine g_bipush (pc' := 24) (v := nI 100) dX11_init_22 rfl (by decide) ?_
  refine g_newarr (pc' := 26) (t := 0) (z := 100) dX11_init_24 rfl (Or.inl ⟨rfl, rfl⟩) (gt_t it1 42 rfl rfl) rfl (by decide) (hz.le (by omega)) (by show _ < 171; omega) ⟨Nat.le_of_ble_eq_true rfl, Nat.le_of_ble_eq_true rfl⟩ ((md_gt (by omega)).trans rfl) ?_
  refine g_putR (pc' := 29) (a := 162) (sh' := (md sh 159 (.inl (11, [163, 164, 0, 165, 2, 0, 2, 0, 0, 2, 0, 1, 1, 1, 1, 0, 1, 1, 2, 0, 0, 1, 1, 2, 2, 0, 0, 1, 1, 0, 0, 1, 2, 2])))) dX11_init_26 rfl qX11_16 rfl ⟨by omega, md_at⟩ (Nat.le_of_ble_eq_true rfl) (fun _ => ⟨rfl, rfl⟩) md_at (fun a ha => md_ne ha) ?_
  refine g_aload_n (pc' := 30) dX11_init_29 rfl 0 rfl rfl ?_
  refine g_iconst (pc' := 31) (v := nI 2) dX11_init_30 rfl (by decide) ?_
  refine g_newarr (pc' := 33) (t := 2) (z := 2) dX11_init_31 rfl (Or.inr (Or.inr ⟨rfl, rfl⟩)) (gt_t it1 97 rfl rfl) rfl (by decide) (hz.le (by omega)) (by show _ < 171; omega) ⟨Nat.le_of_ble_eq_true rfl, Nat.le_of_ble_eq_true rfl⟩ ((md_gt (by omega)).trans rfl) ?_
  refine g_putR (pc' := 36) (a := 163) (sh' := (md sh 159 (.inl (11, [163, 164, 0, 165, 166, 0, 2, 0, 0, 2, 0, 1, 1, 1, 1, 0, 1, 1, 2, 0, 0, 1, 1, 2, 2, 0, 0, 1, 1, 0, 0, 1, 2, 2])))) dX11_init_33 rfl qX11_19 rfl ⟨by omega, md_at⟩ (Nat.le_of_ble_eq_true rfl) (fun _ => ⟨rfl, rfl⟩) md_at (fun a ha => md_ne ha) ?_
  refine g_aload_n (pc' := 37) dX11_init_36 rfl 0 rfl rfl ?_
  refine g_bipush (pc' := 39) (v := nI 60) dX11_init_37 rfl (by decide) ?_
  refine g_newarr (pc' := 41) (t := 0) (z := 60) dX11_init_39 rfl (Or.inl ⟨rfl, rfl⟩) (gt_t it1 42 rfl rfl) rfl (by decide) (hz.le (by omega)) (by show _ < 171; omega) ⟨Nat.le_of_ble_eq_true rfl, Nat.le_of_ble_eq_true rfl⟩ ((md_gt (by omega)).trans rfl) ?_
  refine g_putR (pc' := 44) (a := 164) (sh' := (md sh 159 (.inl (11, [163, 164, 0, 165, 166, 0, 167, 0, 0, 2, 0, 1, 1, 1, 1, 0, 1, 1, 2, 0, 0, 1, 1, 2, 2, 0, 0, 1, 1, 0, 0, 1, 2, 2])))) dX11_init_41 rfl qX11_23 rfl ⟨by omega, md_at⟩ (Nat.le_of_ble_eq_true rfl) (fun _ => ⟨rfl, rfl⟩) md_at (fun a ha => md_ne ha) ?_
  refine g_aload_n (pc' := 45) dX11_init_44 rfl 0 rfl rfl ?_
  refine g_iconst (pc' := 46) (v := (-1)) dX11_init_45 rfl (by decide) ?_
  refine g_putI (pc' := 49) dX11_init_46 rfl fX11_26 ⟨by omega, md_at⟩ rfl ?_
  have hz1 : Zf (u2 σ.1 159 8 (-1), σ.2) 160 := Zf_u hz
  refine g_aload_n (pc' := 50) dX11_init_49 rfl 0 rfl rfl ?_
  refine g_bipush (pc' := 52) (v := nI 60) dX11_init_50 rfl (by decide) ?_
  refine g_newarr (pc' := 54) (t := 0) (z := 60) dX11_init_52 rfl (Or.inl ⟨rfl, rfl⟩) (gt_t it1 42 rfl rfl) rfl (by decide) (hz1.le (by omega)) (by show _ < 171; omega) ⟨Nat.le_of_ble_eq_true rfl, Nat.le_of_ble_eq_true rfl⟩ ((md_gt (by omega)).trans rfl) ?_
  refine g_putR (pc' := 57) (a := 165) (sh' := (md sh 159 (.inl (11, [163, 164, 0, 165, 166, 0, 167, 0, 0, 168, 0, 1, 1, 1, 1, 0, 1, 1, 2, 0, 0, 1, 1, 2, 2, 0, 0, 1, 1, 0, 0, 1, 2, 2])))) dX11_init_54 rfl qX11_30 rfl ⟨by omega, md_at⟩ (Nat.le_of_ble_eq_true rfl) (fun _ => ⟨rfl, rfl⟩) md_at (fun a ha => md_ne ha) ?_
  refine g_aload_n (pc' := 58) dX11_init_57 rfl 0 rfl rfl ?_
  refine g_bipush (pc' := 60) (v := nI 64) dX11_init_58 rfl (by decide) ?_
  refine g_newarr (pc' := 62) (t := 0) (z := 64) dX11_init_60 rfl (Or.inl ⟨rfl, rfl⟩) (gt_t it1 42 rfl rfl) rfl (by decide) (hz1.le (by omega)) (by show _ < 171; omega) ⟨Nat.le_of_ble_eq_true rfl, Nat.le_of_ble_eq_true rfl⟩ ((md_gt (by omega)).trans rfl) ?_
  refine g_putR (pc' := 65) (a := 166) (sh' := (md sh 159 (.inl (11, [163, 164, 0, 165, 166, 0, 167, 0, 0, 168, 0, 1, 1, 1, 1, 0, 1, 1, 169, 0, 0, 1, 1, 2, 2, 0, 0, 1, 1, 0, 0, 1, 2, 2])))) dX11_init_62 rfl qX11_33 rfl ⟨by omega, md_at⟩ (Nat.le_of_ble_eq_true rfl) (fun _ => ⟨rfl, rfl⟩) md_at (fun a ha => md_ne ha) ?_
  refine g_aload_n (pc' := 66) dX11_init_65 rfl 0 rfl rfl ?_
  refine g_bipush (pc' := 68) (v := nI 64) dX11_init_66 rfl (by decide) ?_
  refine g_newarr (pc' := 70) (t := 0) (z := 64) dX11_init_68 rfl (Or.inl ⟨rfl, rfl⟩) (gt_t it1 42 rfl rfl) rfl (by decide) (hz1.le (by omega)) (by show _ < 171; omega) ⟨Nat.le_of_ble_eq_true rfl, Nat.le_of_ble_eq_true rfl⟩ ((md_gt (by omega)).trans rfl) ?_
  refine g_putR (pc' := 73) (a := 167) (sh' := (md sh 159 (.inl (11, [163, 164, 0, 165, 166, 0, 167, 0, 0, 168, 0, 1, 1, 1, 1, 0, 1, 1, 169, 0, 0, 1, 1, 170, 2, 0, 0, 1, 1, 0, 0, 1, 2, 2])))) dX11_init_70 rfl qX11_36 rfl ⟨by omega, md_at⟩ (Nat.le_of_ble_eq_true rfl) (fun _ => ⟨rfl, rfl⟩) md_at (fun a ha => md_ne ha) ?_
  refine g_aload_n (pc' := 74) dX11_init_73 rfl 0 rfl rfl ?_
  refine g_bipush (pc' := 76) (v := nI 64) dX11_init_74 rfl (by decide) ?_
  refine g_newarr (pc' := 78) (t := 0) (z := 64) dX11_init_76 rfl (Or.inl ⟨rfl, rfl⟩) (gt_t it1 42 rfl rfl) rfl (by decide) (hz1.le (by omega)) (by show _ < 171; omega) ⟨Nat.le_of_ble_eq_true rfl, Nat.le_of_ble_eq_true rfl⟩ ((md_gt (by omega)).trans rfl) ?_
  refine g_putR (pc' := 81) (a := 168) (sh' := (md sh 159 (.inl (11, [163, 164, 0, 165, 166, 0, 167, 0, 0, 168, 0, 1, 1, 1, 1, 0, 1, 1, 169, 0, 0, 1, 1, 170, 171, 0, 0, 1, 1, 0, 0, 1, 2, 2])))) dX11_init_78 rfl qX11_39 rfl ⟨by omega, md_at⟩ (Nat.le_of_ble_eq_true rfl) (fun _ => ⟨rfl, rfl⟩) md_at (fun a ha => md_ne ha) ?_
  refine g_aload_n (pc' := 82) dX11_init_81 rfl 0 rfl rfl ?_
  refine g_bipush (pc' := 84) (v := nI 64) dX11_init_82 rfl (by decide) ?_
  refine g_newarr (pc' := 86) (t := 0) (z := 64) dX11_init_84 rfl (Or.inl ⟨rfl, rfl⟩) (gt_t it1 42 rfl rfl) rfl (by decide) (hz1.le (by omega)) (by show _ < 171; omega) ⟨Nat.le_of_ble_eq_true rfl, Nat.le_of_ble_eq_true rfl⟩ ((md_gt (by omega)).trans rfl) ?_
  refine g_putR (pc' := 89) (a := 169) (sh' := (md sh 159 (.inl (11, [163, 164, 0, 165, 166, 0, 167, 0, 0, 168, 0, 1, 1, 1, 1, 0, 1, 1, 169, 0, 0, 1, 1, 170, 171, 0, 0, 1, 1, 0, 0, 1, 172, 2])))) dX11_init_86 rfl qX11_42 rfl ⟨by omega, md_at⟩ (Nat.le_of_ble_eq_true rfl) (fun _ => ⟨rfl, rfl⟩) md_at (fun a ha => md_ne ha) ?_
  refine g_aload_n (pc' := 90) dX11_init_89 rfl 0 rfl rfl ?_
  refine g_iconst (pc' := 91) (v := nI 4) dX11_init_90 rfl (by decide) ?_
  refine g_newarr (pc' := 93) (t := 1) (z := 4) dX11_init_91 rfl (Or.inr (Or.inl ⟨rfl, rfl⟩)) (gt_t it5 10 rfl rfl) rfl (by decide) (hz1.le (by omega)) (by show _ < 171; omega) ⟨Nat.le_of_ble_eq_true rfl, Nat.le_of_ble_eq_true rfl⟩ ((md_gt (by omega)).trans rfl) ?_
  refine g_putR (pc' := 96) (a := 170) (sh' := (md sh 159 (.inl (11, [163, 164, 0, 165, 166, 0, 167, 0, 0, 168, 0, 1, 1, 1, 1, 0, 1, 1, 169, 0, 0, 1, 1, 170, 171, 0, 0, 1, 1, 0, 0, 1, 172, 173])))) dX11_init_93 rfl qX11_45 rfl ⟨by omega, md_at⟩ (Nat.le_of_ble_eq_true rfl) (fun _ => ⟨rfl, rfl⟩) md_at (fun a ha => md_ne ha) ?_
  exact g_vret dX11_init_96 rfl ⟨rfl, rfl⟩ rfl
