/-! The law from its entry. -/
section
variable {p : Program} {l : Launch} {e : Env} {R : Room} {s : State} {m : MethodId} {args : Array Value} {below : List Frame} {meth : Method} {c : Code} {cc : ByteArray} {own : String} {b : Nat} {cy : Nat → ClassId} {D : va_G} {H : Heap} {locs : List Loc} {ls : Array Slot} {pc kc ks n : Nat} {sh sh' : Nat → Shp} {σ : Sg} {st : List Value} {Q : State → Prop}
theorem w_new {idx ci N : Nat} {C : String} {T : u_T} {q0 : List Nat} (hx : p.tables.exec = Jvm.exec) (hb : c.code = cc) (hown : s.vm.findClass own = some m.cls) (hts : ∀ w ∈ gt, w.before args s = true) (hK : Kx b cy D s) (hW : Wd b cy D sh n σ H) (hS : va_S (fun q => b ≤ q) s.heap H locs) (hd : decode cc pc = .ok (.new idx, 3)) (hcl : Cond.classLink own idx C ∈ gt) (hinst : Cond.instantiable C N ∈ gt) (hini : Cond.initialized C ∈ gt) (hc : vwCl[ci]? = some (C, T, N)) (hf : (List.range N).map (fun j => defaultValue (tyOf ci j)) = q0.map cv0) (hfr : frs q0) (hz : Zf σ n) (hn : n < NP) (hcs : kc + 1 ≤ R.cells ∧ ks + N ≤ R.slots) (hs : sh' n = .inl (ci, q0)) (ho : ∀ a, a < n → sh' a = sh a)
    (g : ∀ H1 : Heap, Wd b cy D sh' (n + 1) σ H1 → va_S (fun q => b ≤ q) s.heap H1 locs → W p l e R s m args below meth c H1 locs (kc + 1) (ks + N) Q (F0 m (pc + 3) ls (.ref (b + n) :: st))) : W p l e R s m args below meth c H locs kc ks Q (F0 m pc ls st) := by
  have hKn := hK.1.1 ci _ hc
  have hin : ∀ w ∈ u_ws C T N, w ∈ gt := cl_in (C, T, N) (List.mem_of_getElem? hc)
  refine W.newcK hx hb hown (hts _ hcl) (hts _ hinst) (hts _ hini) rfl hd hcs.1 hcs.2 hKn.2.1 (hW.1 hn) fun H1 kC hkC e1 z1 o1 => ?_
  have hsz := hW.1 hn
  have hk : ∀ (k : Nat) (x : Nat × va_E), (wl b cy sh n σ)[k]? = some x → H1[x.1]? = H[x.1]? := fun k x hx => o1 x.1 (by have := (hW.2 k x hx).lt; omega)
  refine g H1 ⟨fun _ => by omega, ?_⟩ ⟨Nat.le_trans hS.1 (by omega), fun x h1 h2 => (o1 x (by have := hS.1; omega)).trans (hS.2.1 x h1 h2), hS.2.2⟩
  rw [← wl_push (sh := sh) (σ := σ) (e := .inr (ci, q0.mapIdx (cv b σ n))) (by unfold ce; rw [hs]) (fun a ha => ce_sh (ho a ha))]
  refine (hW.2.kept hk).app (fun k x hx => ?_)
  have hz1 : k < 1 := (List.getElem?_eq_some_iff.mp hx).1
  rw [show k = 0 by omega] at hx
  cases hx
  refine ⟨_, hc, (u_born (tyOf ci) hts hin hKn hkC e1 (fun k hk => cl_ty ci (cl_lt hc) (C, T, N) hc k hk)).to (fun j hj => ?_)⟩
  have hl2 : q0.length = N := by have := congrArg List.length hf; simpa using this.symm
  have e9 : (q0.map cv0)[j]? = some (defaultValue (tyOf ci j)) := by rw [← hf]; simp [hj]
  have hj2 : j < q0.length := by omega
  rw [List.getElem?_map, List.getElem?_eq_getElem hj2] at e9
  have e10 : cv0 q0[j] = defaultValue (tyOf ci j) := Option.some.inj e9
  unfold vp_V
  rw [List.getD_eq_getElem?_getD, List.getElem?_mapIdx, List.getElem?_eq_getElem hj2, ← e10]
  exact (cv_0 hz (hfr _ (List.getElem_mem hj2))).symm
theorem w_init {y' : MethodName} {cc' : ByteArray} {nL nL' k idx : Nat} {R' : Room} {sh2 : Nat → Shp} {n2 : Nat} {σ2 : Sg} {mc' ms' : Nat} (hx : p.tables.exec = Jvm.exec) (hb : c.code = cc) (hml : c.maxLocals = nL) (hown : s.vm.findClass own = some m.cls) (hts : ∀ w ∈ gt, w.before args s = true) (hK : Kx b cy D s) (hW : Wd b cy D sh n σ H) (hS : va_S (fun q => b ≤ q) s.heap H locs) (hl : ls.size = nL) (hd : decode cc pc = .ok (.invokespecial idx, 3)) (hlk : Cond.methodLink own idx y' ∈ gt) (hI : ILk own idx y' cc' nL' 0) (hM : Ev l b cy D R' y' cc' none nL' mc' ms' [.ref (b + k)] sh n σ (none, sh2, n2, σ2)) (hR : RmO R R' nL') (hR0 : R'.cells = mc' ∧ R'.slots = ms') (hcs : kc + mc' ≤ R.cells ∧ ks + ms' ≤ R.slots) (hrm : (st.map fun v => v.category).sum ≤ 8)
    (g : ∀ (H1 : Heap) (locs1 : List Loc), Wd b cy D sh2 n2 σ2 H1 → va_S (fun q => b ≤ q) s.heap H1 locs1 → W p l e R s m args below meth c H1 locs1 (kc + mc') (ks + ms') Q (F0 m (pc + 3) ls st)) : W p l e R s m args below meth c H locs kc ks Q (F0 m pc ls (.ref (b + k) :: st)) := by
  obtain ⟨-, h2, h4, h5, h8, h6⟩ := hI
  exact w_back (va_runI (As := []) (rest := st) (n := 0) ⟨hx, hb, hml, hown, hts⟩ hM ⟨callB_of 0 hts (gt_ws h5) rfl hR0.1 hR0.2 (hts _ h4) (hts _ hlk) h6 hR, h8, hts _ h2⟩ ⟨px_blind, px_at hK hW hS⟩ rfl rfl hl rfl (lv_room hrm) hd hcs) hS (fun H1 locs1 hW1 hS1 => g H1 locs1 hW1 hS1)
end
theorem iL_9 : ILk RL 9 yX10_init cX10_init 2 0 := ⟨Or.inl (gt_t it1 23 rfl rfl), (gt_t it1 24 rfl rfl), (gt_t it1 1 rfl rfl), (gt_t it1 25 rfl rfl), rfl, by decide +kernel⟩
theorem iL_12 : ILk RL 12 yX11_init cX11_init 1 0 := ⟨Or.inl (gt_t it4 143 rfl rfl), (gt_t it4 144 rfl rfl), (gt_t it1 12 rfl rfl), (gt_t it4 145 rfl rfl), rfl, by decide +kernel⟩
theorem jn_0 {sh : Nat → Shp} : jn sh 0 = shF := by
  funext a
  unfold jn
  rw [if_neg (by omega)]
theorem jn_160 : jn (us shF 159 (.inl (11, [2, 2, 0, 2, 2, 0, 2, 0, 0, 2, 0, 1, 1, 1, 1, 0, 1, 1, 2, 0, 0, 1, 1, 2, 2, 0, 0, 1, 1, 0, 0, 1, 2, 2]))) 159 = shF := jn_us (fun _ _ => rfl)
set_option maxHeartbeats 4000000 in
set_option maxRecDepth 100000 in
theorem whole_start {p : Program} {e : Env} {s : State} {m : MethodId} {below : List Frame} {meth : Method} {c : Code} (l : Launch) (hflags : l.flags = flags0) {b L : Nat} {xs : Nat → Int32} (hL : L ≤ 2560) (C0 : lw_At p s m meth c b L xs) : W p l e room_1 s m #[Value.ref b] below meth c s.heap [] 0 0 (lw_Z below #[Value.ref b] s) (entryFrame m ([Value.ref b] : List Value).toArray 4) := by
  obtain ⟨hx, hb, hr, hml, hown, hts, hX, hbl, hlocks, hgv⟩ := id C0
  obtain ⟨cy, D, hK⟩ := kx_start hts hgv
  have hgt : ∀ w ∈ gt, w.before #[Value.ref b] s = true := fun w hw => hts w (List.mem_filter.mp hw).1
  have X : LCx p s m meth c b L xs cy D := ⟨hx, hb, hr, hml, hown, hgt, hX, hbl, hlocks, hK⟩
  have hl := lv_entry ([.ref b]) (n := 4) (Nat.le_of_ble_eq_true rfl)
  rw [lg_entry_eq]
  generalize (lg_sl ([.ref b]) ++ List.replicate (4 - (lg_sl ([.ref b])).length) Slot.unset).toArray = ls at hl ⊢
  have hl : lv_has ls 4 [(0, .ref b)] := hl
  have hW0 : Wd s.heap.size cy D shF 0 z0 s.heap := ⟨fun _ => rfl, fun k q h => by simp [wl] at h⟩
  refine w_new (own := RL) (sh' := us shF 0 (.inl (10, [2, 2, 2, 2, 2, 2, 2, 2, 2, 0]))) (q0 := [2, 2, 2, 2, 2, 2, 2, 2, 2, 0]) hx hb hown hgt hK hW0 va_S.rf dL_law_0 (gt_t it1 21 rfl rfl) (gt_t it1 22 rfl rfl) (gt_t it1 1 rfl rfl) rfl rfl (by unfold frs; decide) z0_f (by decide) ⟨Nat.le_of_ble_eq_true rfl, Nat.le_of_ble_eq_true rfl⟩ us_eq (fun a ha => us_ne (by omega)) (fun H1 hW1 hS1 => ?_)
  refine lv_dup hx hb dL_law_3 rfl ?_
  have e1 := ev_c10 (l := l) (b := s.heap.size) (cy := cy) (D := D) (d := 0) (sh := us shF 0 (.inl (10, [2, 2, 2, 2, 2, 2, 2, 2, 2, 0]))) (σ := z0) z0_f us_eq
  rw [jn_0] at e1
  refine w_init (own := RL) hx hb hml hown hgt hK hW1 hS1 hl.1 dL_law_4 (gt_t it1 23 rfl rfl) iL_9 e1 ⟨Nat.le_of_ble_eq_true rfl, Nat.le_of_ble_eq_true rfl⟩ ⟨rfl, rfl⟩ ⟨Nat.le_of_ble_eq_true rfl, Nat.le_of_ble_eq_true rfl⟩ (Nat.le_of_ble_eq_true rfl) (fun H2 locs2 hW2 hS2 => ?_)
  refine lv_astore_n (lv' := [(1, .ref (s.heap.size + 0)), (0, .ref b)]) hx hb dL_law_7 rfl hl (by decide) rfl (fun ls hl => ?_)
  refine w_new (own := RL) (sh' := us shF 159 (.inl (11, [2, 2, 0, 2, 2, 0, 2, 0, 0, 2, 0, 1, 1, 1, 1, 0, 1, 1, 2, 0, 0, 1, 1, 2, 2, 0, 0, 1, 1, 0, 0, 1, 2, 2]))) (q0 := [2, 2, 0, 2, 2, 0, 2, 0, 0, 2, 0, 1, 1, 1, 1, 0, 1, 1, 2, 0, 0, 1, 1, 2, 2, 0, 0, 1, 1, 0, 0, 1, 2, 2]) hx hb hown hgt hK hW2 hS2 dL_law_8 (gt_t it4 141 rfl rfl) (gt_t it4 142 rfl rfl) (gt_t it1 12 rfl rfl) rfl rfl (by unfold frs; decide) z0_160 (by decide) ⟨Nat.le_of_ble_eq_true rfl, Nat.le_of_ble_eq_true rfl⟩ us_eq (fun a ha => us_ne (by omega)) (fun H3 hW3 hS3 => ?_)
  refine lv_dup hx hb dL_law_11 rfl ?_
  have e2 := ev_c11 (l := l) (b := s.heap.size) (cy := cy) (D := D) (d := 0) (sh := us shF 159 (.inl (11, [2, 2, 0, 2, 2, 0, 2, 0, 0, 2, 0, 1, 1, 1, 1, 0, 1, 1, 2, 0, 0, 1, 1, 2, 2, 0, 0, 1, 1, 0, 0, 1, 2, 2]))) (σ := (u2 z0.1 45 2 (-1), z0.2)) z0_160 us_eq
  rw [jn_160] at e2
  refine w_init (own := RL) hx hb hml hown hgt hK hW3 hS3 hl.1 dL_law_12 (gt_t it4 143 rfl rfl) iL_12 e2 ⟨Nat.le_of_ble_eq_true rfl, Nat.le_of_ble_eq_true rfl⟩ ⟨rfl, rfl⟩ ⟨Nat.le_of_ble_eq_true rfl, Nat.le_of_ble_eq_true rfl⟩ (Nat.le_of_ble_eq_true rfl) (fun H4 locs4 hW4 hS4 => ?_)
  refine lv_astore_n (lv' := [(2, .ref (s.heap.size + 159)), (1, .ref (s.heap.size + 0)), (0, .ref b)]) hx hb dL_law_15 rfl hl (by decide) rfl (fun ls hl => ?_)
  refine lv_iconst (v := nI 0) hx hb dL_law_16 (by decide) ?_
  refine lv_istore_n (lv' := [(3, .int (nI 0)), (2, .ref (s.heap.size + 159)), (1, .ref (s.heap.size + 0)), (0, .ref b)]) hx hb dL_law_17 rfl hl (by decide) rfl (fun ls hl => ?_)
  refine W.widen (k := 600000) (n := 7302250) (by decide) (by decide) ?_
  exact lp_law X hL L 0 s0 (Nat.zero_le _) (by omega) s0_rel H4 locs4 ls hW4 hS4 (lv_sub hl [3, 2, 1, 0] rfl)
