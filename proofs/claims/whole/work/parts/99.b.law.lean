/-! The law. -/
section
variable {p : Program} {l : Launch} {e : Env} {s : State} {m : MethodId} {below : List Frame} {meth : Method} {c : Code} {bs L : Nat} {xs : Nat → Int32} {cy : Nat → ClassId} {D : va_G}
/-- what holds all along in the law -/
def LCx (p : Program) (s : State) (m : MethodId) (meth : Method) (c : Code) (bs L : Nat) (xs : Nat → Int32) (cy : Nat → ClassId) (D : va_G) : Prop := (p.tables.exec = Jvm.exec) ∧ (c.code = cL_law) ∧ (meth.sig.returnType = ret) ∧ (c.maxLocals = 4) ∧ (s.vm.findClass RL = some m.cls) ∧ (∀ w ∈ gt, w.before #[Value.ref bs] s = true) ∧ (va_X bs L xs s s.heap) ∧ (bs < s.heap.size) ∧ (meth.locks = false) ∧ (Kx s.heap.size cy D s)
theorem LCx.hx (X : LCx p s m meth c bs L xs cy D) : p.tables.exec = Jvm.exec := X.1
theorem LCx.hb (X : LCx p s m meth c bs L xs cy D) : c.code = cL_law := X.2.1
theorem LCx.hr (X : LCx p s m meth c bs L xs cy D) : meth.sig.returnType = ret := X.2.2.1
theorem LCx.hml (X : LCx p s m meth c bs L xs cy D) : c.maxLocals = 4 := X.2.2.2.1
theorem LCx.hown (X : LCx p s m meth c bs L xs cy D) : s.vm.findClass RL = some m.cls := X.2.2.2.2.1
theorem LCx.hts (X : LCx p s m meth c bs L xs cy D) : ∀ w ∈ gt, w.before #[Value.ref bs] s = true := X.2.2.2.2.2.1
theorem LCx.hX (X : LCx p s m meth c bs L xs cy D) : va_X bs L xs s s.heap := X.2.2.2.2.2.2.1
theorem LCx.hbl (X : LCx p s m meth c bs L xs cy D) : bs < s.heap.size := X.2.2.2.2.2.2.2.1
theorem LCx.hlk (X : LCx p s m meth c bs L xs cy D) : meth.locks = false := X.2.2.2.2.2.2.2.2.1
theorem LCx.hK (X : LCx p s m meth c bs L xs cy D) : Kx s.heap.size cy D s := X.2.2.2.2.2.2.2.2.2
def LG (p : Program) (l : Launch) (e : Env) (s : State) (m : MethodId) (below : List Frame) (meth : Method) (c : Code) (bs : Nat) (cy : Nat → ClassId) (D : va_G) (pc : Nat) (lv : List (Nat × Value)) (st : List Value) (σ : Sg) : Prop := ∀ (H : Heap) (locs : List Loc) (ls : Array Slot), Wd s.heap.size cy D shF NP σ H → va_S (fun q => s.heap.size ≤ q) s.heap H locs → lv_has ls 4 lv → W p l e room_1 s m #[Value.ref bs] below meth c H locs 600000 7302250 (lw_Z below #[Value.ref bs] s) (F0 m pc ls st)
abbrev LV (bs B i : Nat) : List (Nat × Value) := [(0, .ref bs), (1, .ref (B + 0)), (2, .ref (B + 159)), (3, .int (nI i))]
theorem lg_1 (X : LCx p s m meth c bs L xs cy D) {pc i : Nat} {st : List Value} {σ : Sg} (hd : decode cL_law pc = .ok (.aload_n 1, 1)) (k : LG p l e s m below meth c bs cy D (pc + 1) (LV bs s.heap.size i) (.ref (s.heap.size + 0) :: st) σ) : LG p l e s m below meth c bs cy D pc (LV bs s.heap.size i) st σ := fun H locs ls hW hS hl => lv_aload_n X.hx X.hb hd rfl (lv_at hl 1 rfl) (k H locs ls hW hS hl)
theorem lg_2 (X : LCx p s m meth c bs L xs cy D) {pc i : Nat} {st : List Value} {σ : Sg} (hd : decode cL_law pc = .ok (.aload_n 2, 1)) (k : LG p l e s m below meth c bs cy D (pc + 1) (LV bs s.heap.size i) (.ref (s.heap.size + 159) :: st) σ) : LG p l e s m below meth c bs cy D pc (LV bs s.heap.size i) st σ := fun H locs ls hW hS hl => lv_aload_n X.hx X.hb hd rfl (lv_at hl 2 rfl) (k H locs ls hW hS hl)
theorem lg_arg (X : LCx p s m meth c bs L xs cy D) (hL : L ≤ 2560) {pc pc' i j : Nat} {z : Int} {st : List Value} {σ : Sg} (d0 : decode cL_law pc = .ok (.aload_n 0, 1)) (d1 : decode cL_law (pc + 1) = .ok (.iload_n 3, 1)) (d2 : decode cL_law (pc + 1 + 1) = .ok (.iconst z, 1)) (d3 : decode cL_law (pc + 1 + 1 + 1) = .ok (.iadd, 1)) (d4 : decode cL_law (pc + 1 + 1 + 1 + 1) = .ok (.iaload, 1)) (hp : pc + 1 + 1 + 1 + 1 + 1 = pc') (hz : Int32.ofInt z = nI j) (h : i + j < L) (k : LG p l e s m below meth c bs cy D pc' (LV bs s.heap.size i) (.int (xs (i + j)) :: st) σ) : LG p l e s m below meth c bs cy D pc (LV bs s.heap.size i) st σ := by
  subst hp
  intro H locs ls hW hS hl
  refine lv_aload_n X.hx X.hb d0 rfl (lv_at hl 0 rfl) ?_
  refine lv_iload_n X.hx X.hb d1 rfl (lv_at hl 3 rfl) ?_
  refine lv_iconst X.hx X.hb d2 hz ?_
  refine lv_iadd X.hx X.hb d3 ?_
  rw [nI_add]
  refine va_sld X.hx X.hb X.hX X.hbl (by have := X.hbl; show ¬ s.heap.size ≤ bs; omega) hS (vp_in_nI h (by omega)) d4 ?_
  rw [nI_clamp (by omega)]
  exact k H locs ls hW hS hl
theorem lg_call (X : LCx p s m meth c bs L xs cy D) {y' : MethodName} {cc' : ByteArray} {nL' na k ci idx pc i : Nat} {q : List Nat} {As st st0 : List Value} {z : Int32} {σ σ' : Sg} (hd : decode cL_law pc = .ok (.invokevirtual idx, 3)) (hL : VLk RL idx y' cc' nL' fI na) (hM : Es l s.heap.size cy D 7 y' cc' fI nL' (.ref (s.heap.size + k) :: As) σ (some (.int z)) σ') (hk : isO shF NP k ci q) (hci : (vwCl[ci]?).map (fun c => c.1) = some y'.cls) (hnL : nL' ≤ 21) (hna : As.length = na) (hst : st0 = As.reverse ++ .ref (s.heap.size + k) :: st) (hrm : (st.map fun v => v.category).sum ≤ 8) (g : LG p l e s m below meth c bs cy D (pc + 3) (LV bs s.heap.size i) (.int z :: st) σ') : LG p l e s m below meth c bs cy D pc (LV bs s.heap.size i) st0 σ := by
  intro H locs ls hW hS hl
  obtain ⟨h1, h2, h3, h4, h5, h6⟩ := hL
  obtain ⟨r, hr1, hr2⟩ : ∃ r, vwCl[ci]? = some r ∧ r.1 = y'.cls := by
    cases hq : vwCl[ci]? with
    | none => rw [hq] at hci; cases hci
    | some r => rw [hq] at hci; exact ⟨r, rfl, Option.some.inj hci⟩
  have hrec := va_recv X.hK.1 hW.2 hr1 (wl_o σ hk)
  rw [hr2] at hrec
  refine w_back (va_runV (As := As) (rest := st) (C := y'.cls) (n := na) ⟨X.hx, X.hb, X.hml, X.hown, X.hts⟩ hM ⟨callB_of na X.hts (gt_ws h5) rfl rfl rfl (X.hts _ h4) (X.hts _ h1) h6 ⟨Nat.le_of_ble_eq_true rfl, by show 8 + (nL' + 11) + 40 * 7 ≤ 400; omega⟩, X.hts _ h2, X.hts _ h3⟩ ⟨px_blind, hrec, px_at X.hK hW hS⟩ rfl hna hl.1 hst (lv_room hrm) hd ⟨Nat.le_of_ble_eq_true rfl, Nat.le_of_ble_eq_true rfl⟩) hS (fun H1 locs1 hW1 hS1 => ?_)
  exact g H1 locs1 ls hW1 hS1 hl
theorem lg_eq (X : LCx p s m meth c bs L xs cy D) {pc tgt i : Nat} {off : Int} {z : Int32} {σ : Sg} (hd : decode cL_law pc = .ok (.if_icmp .eq off, 3)) (ht : (pc : Int) + off = (tgt : Int)) (k : LG p l e s m below meth c bs cy D tgt (LV bs s.heap.size i) [] σ) : LG p l e s m below meth c bs cy D pc (LV bs s.heap.size i) [.int z, .int z] σ := fun H locs ls hW hS hl => lv_icmp_eq X.hx X.hb hd ht (fun _ => k H locs ls hW hS hl) (fun c => absurd rfl c)
theorem lg_bool (X : LCx p s m meth c bs L xs cy D) {pc i : Nat} {x : Int32} {st : List Value} {σ : Sg} (d0 : decode cL_law pc = .ok (.ifCond .eq 7, 3)) (d1 : decode cL_law (pc + 3) = .ok (.iconst 1, 1)) (d2 : decode cL_law (pc + 3 + 1) = .ok (.goto 4, 3)) (d3 : decode cL_law (pc + 7) = .ok (.iconst 0, 1)) (k : LG p l e s m below meth c bs cy D (pc + 8) (LV bs s.heap.size i) (.int (bI (!(x == 0))) :: st) σ) : LG p l e s m below meth c bs cy D pc (LV bs s.heap.size i) (.int x :: st) σ := by
  intro H locs ls hW hS hl
  refine lv_if_eq (tgt := pc + 7) X.hx X.hb d0 (by omega) (fun c1 => ?_) (fun c1 => ?_)
  · refine lv_iconst (v := 0) X.hx X.hb d3 rfl ?_
    have e9 : bI (!(x == 0)) = 0 := by rw [c1]; rfl
    rw [e9] at k
    exact k H locs ls hW hS hl
  · refine lv_iconst (v := 1) X.hx X.hb d1 rfl ?_
    refine lv_goto (tgt := pc + 8) X.hx X.hb d2 (by omega) ?_
    have e9 : bI (!(x == 0)) = 1 := by
      have : (x == 0) = false := by rw [beq_eq_false_iff_ne]; exact c1
      rw [this]; rfl
    rw [e9] at k
    exact k H locs ls hW hS hl
theorem lg_end (X : LCx p s m meth c bs L xs cy D) {i : Nat} {σ : Sg} : LG p l e s m below meth c bs cy D 737 (LV bs s.heap.size i) [] σ := by
  intro H locs ls hW hS hl
  refine va_forget hS.2.2 ?_
  refine lv_iconst (v := 1) X.hx X.hb dL_law_737 rfl ?_
  exact lw_ret X.hx X.hb X.hr X.hlk dL_law_738
end
