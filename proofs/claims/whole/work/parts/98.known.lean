/-! What is known at the law's entry. -/
theorem cl_inst : ∀ q ∈ vwCl, Cond.instantiable q.1 q.2.2 ∈ lw_tbl := by
  have h : ∀ q ∈ vwCl, lw_tbl.contains (Cond.instantiable q.1 q.2.2) = true := by decide +kernel
  intro q hq
  exact List.contains_iff_mem.mp (h q hq)
theorem ka_int {args : Array Value} {s : State} {ty : FieldType} (hty : ty = .int ∨ ty = .long ∨ ty = .boolean) (h : (Cond.arrayClass ty).before args s = true) : ∃ cA, ArrOfT s cA ty ∧ va_RA s cA ty := by
  obtain ⟨cA, kA, comp, h1, h2, h3⟩ := Cond.arrayClass_spec (first := s) (o := none) (idx := []) h
  refine ⟨cA, fun n z => ⟨fun k h => (by cases h), kA, h2, comp, h3⟩, ?_⟩
  rcases hty with rfl | rfl | rfl <;> exact h1
theorem ka_obj {args : Array Value} {s : State} {C : String} (h : (Cond.arrayOver (.object C)).before args s = true) : ∃ cA, ArrOfT s cA (.object C) ∧ va_RA s cA (.object C) := by
  obtain ⟨comp, cA, kA, h1, -, h2, h3, h4⟩ := Cond.arrayOver_spec (first := s) (o := none) (idx := []) h
  exact ⟨cA, fun n z => ⟨fun k h => (by cases h), kA, h2, comp, h3⟩, kA, comp, h2, h3, h1, h4⟩
set_option maxRecDepth 100000 in
set_option maxHeartbeats 4000000 in
theorem kx_start {args : Array Value} {s : State} (hts : ∀ w ∈ lw_tbl, w.before args s = true) (hgv : (Jvm.Cond.and given_1 narrow_1).before args s = true) : ∃ (cy : Nat → ClassId) (D : va_G), Kx s.heap.size cy D s := by
  have hs := flat_of_before _ hgv
  have hA : ∀ a : Nat, a < s.heap.size → ¬ (fun q : Nat => s.heap.size ≤ q) a := fun a h => by show ¬ s.heap.size ≤ a; omega
  have hcl : ∀ ci : Nat, ∃ p : ClassId × (Nat → Nat), ∀ q, vwCl[ci]? = some q → u_Kn s q.1 q.2.1 q.2.2 p.1 p.2 := by
    intro ci
    cases hq : vwCl[ci]? with
    | none => exact ⟨(0, fun _ => 0), fun q h => (nomatch h)⟩
    | some q =>
      have hm := List.mem_of_getElem? hq
      obtain ⟨cC, iS, h⟩ := u_known (C := q.1) (T := q.2.1) (N := q.2.2) (n := q.2.2) hts (fun w hw => (List.mem_filter.mp (cl_in q hm w hw)).1) (hts _ (cl_inst q hm))
      exact ⟨(cC, iS), fun q' h' => by cases h'; exact h⟩
  obtain ⟨ad, had⟩ := Classical.axiomOfChoice hcl
  obtain ⟨c0, a0, r0⟩ := ka_int (Or.inl rfl) (hts (Cond.arrayClass .int) (by decide +kernel))
  obtain ⟨c1, a1, r1⟩ := ka_int (Or.inr (Or.inl rfl)) (hts (Cond.arrayClass .long) (by decide +kernel))
  obtain ⟨c2, a2, r2⟩ := ka_int (Or.inr (Or.inr rfl)) (hts (Cond.arrayClass .boolean) (by decide +kernel))
  obtain ⟨c3, a3, r3⟩ := ka_obj (hts (Cond.arrayOver (.object RX5)) (by decide +kernel))
  obtain ⟨c4, a4, r4⟩ := ka_obj (hts (Cond.arrayOver (.object RX3)) (by decide +kernel))
  obtain ⟨c5, a5, r5⟩ := ka_obj (hts (Cond.arrayOver (.object RX1)) (by decide +kernel))
  obtain ⟨adK, adV, hS, hE⟩ := vk_Sof (args := args) (s := s) (N := 1) (tm := fun _ => Term.string RX10 244) (len := [6]) (byt := sTx) (A := fun q => s.heap.size ≤ q) (by decide) (fun i hi => hs _ (by decide +kernel)) (fun i hi => hs _ (by decide +kernel)) (fun i hi => hs _ (by decide +kernel)) (fun i hi => by
      rw [show i = 0 by omega]; exact hs _ (by decide +kernel)) (fun i hi j hj => by
      rw [show i = 0 by omega] at hj ⊢
      have hj6 : j < 6 := hj
      rcases j6 hj6 with rfl | rfl | rfl | rfl | rfl | rfl <;> exact hs _ (by decide +kernel)) (fun i j hi hj hij => absurd (show i = j by omega) hij) hA
  refine ⟨fun t => match t with | 0 => c0 | 1 => c1 | 2 => c2 | 3 => c3 | 4 => c4 | _ => c5, (fun ci => (ad ci).1, fun ci i => if ci = 100 then (if i = 0 then adK 0 else adV 0) else (ad ci).2 i), ⟨fun ci q hq => ?_, fun k q hk => ?_⟩, fun w hw => ?_, fun w hw => ?_, ⟨va_AO.of (hts _ (by decide +kernel)), va_AO.of (hts _ (by decide +kernel)), va_AO.of (hts _ (by decide +kernel))⟩, ?_⟩
  · have h12 := cl_lt hq
    have e : (fun i : Nat => if ci = 100 then (if i = 0 then adK 0 else adV 0) else (ad ci).2 i) = (ad ci).2 := by
      funext i
      exact if_neg (by omega)
    have h := had ci q hq
    show u_Kn s q.1 q.2.1 q.2.2 (ad ci).1 (fun i : Nat => if ci = 100 then (if i = 0 then adK 0 else adV 0) else (ad ci).2 i)
    rw [e]
    exact h
  · match k, hk with
    | 0, hk => cases hk; exact ⟨a0, r0⟩
    | 1, hk => cases hk; exact ⟨a1, r1⟩
    | 2, hk => cases hk; exact ⟨a2, r2⟩
    | 3, hk => cases hk; exact ⟨a3, r3⟩
    | 4, hk => cases hk; exact ⟨a4, r4⟩
    | 5, hk => cases hk; exact ⟨a5, r5⟩
    | k + 6, hk => simp [tyl] at hk
  · have h1 := List.mem_filter.mp hw
    have hk := h1.2
    exact va_tabs (by cases w <;> first | rfl | exact absurd hk Bool.false_ne_true) rfl (hts w h1.1)
  · have h1 := List.mem_filter.mp hw
    have hk := h1.2
    exact va_tabs (by cases w <;> first | rfl | exact absurd hk Bool.false_ne_true) rfl (hts w h1.1)
  · refine ⟨⟨fun i hi => ?_, fun i j hi hj _ => by omega⟩, vk_R.of (A := args) (hts _ (by decide +kernel)) ?_, va_Zof (hts _ (by decide +kernel)) (hts _ (by decide +kernel)) (va_eqt (hs _ (by decide +kernel))) hA, va_Zqof (hts _ (by decide +kernel)) (hts _ (by decide +kernel)) (hs _ (by decide +kernel)) hA⟩
    · have h := hS.1 i hi
      rw [show i = 0 by omega] at h ⊢
      exact h
    · exact hE 0 (by decide)
