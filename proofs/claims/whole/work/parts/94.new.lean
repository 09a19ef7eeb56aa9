/-! Cells that are made. -/
def us (sh : Nat → Shp) (k : Nat) (x : Shp) : Nat → Shp := fun a => if a = k then x else sh a
theorem us_eq {sh : Nat → Shp} {k : Nat} {x : Shp} : us sh k x k = x := if_pos rfl
theorem us_ne {sh : Nat → Shp} {k a : Nat} {x : Shp} (h : a ≠ k) : us sh k x a = sh a := if_neg h
theorem ce_sh {b : Nat} {cy : Nat → ClassId} {sh sh' : Nat → Shp} {σ : Sg} {a : Nat} (h : sh' a = sh a) : ce b cy sh' σ a = ce b cy sh σ a := by unfold ce; rw [h]
/-- zero from place k on -/
def Zf (σ : Sg) (k : Nat) : Prop := ∀ a, k ≤ a → (∀ j, σ.1 a j = 0) ∧ ∀ j, σ.2 a j = 0
theorem Zf.le {σ : Sg} {k k' : Nat} (h : Zf σ k) (hk : k ≤ k') : Zf σ k' := fun a ha => h a (by omega)
theorem Zf.u1 {σ : Sg} {k j : Nat} (h : Zf σ k) : (u2 σ.1 k j 0, σ.2) = σ := by
  refine Prod.ext ?_ rfl
  funext a i
  show u2 σ.1 k j 0 a i = σ.1 a i
  unfold u2
  split
  · next h' => rw [h'.1, (h k (Nat.le_refl _)).1]
  · rfl
def cv0 (q : Nat) : Value := if q = 0 then .int 0 else if q = 1 then .long 0 else .null
def frs (q : List Nat) : Prop := ∀ c ∈ q, c ≤ 2
theorem cv_0 {b : Nat} {σ : Sg} {n j c : Nat} (hz : Zf σ n) (h : c ≤ 2) : cv b σ n j c = cv0 c := by
  unfold cv cv0
  rw [(hz n (Nat.le_refl _)).1, (hz n (Nat.le_refl _)).2]
  by_cases h0 : c = 0
  · rw [if_pos h0, if_pos h0]
  · rw [if_neg h0, if_neg h0]
    by_cases h1 : c = 1
    · rw [if_pos h1, if_pos h1]
    · rw [if_neg h1, if_neg h1, if_pos (by omega)]
section
variable {l : Launch} {b : Nat} {cy : Nat → ClassId} {D : va_G} {R : Room} {y : MethodName} {cc : ByteArray} {ret : Option FieldType} {nL mc ms : Nat} {Z : Zt} {pc pc' tgt : Nat} {lv lv' : List (Nat × Value)} {st : List Value} {kc ks : Nat} {sh sh' : Nat → Shp} {n : Nat} {σ : Sg} {off : Int}
theorem g_obj {idx k : Nat} (hd : decode cc pc = .ok (.invokespecial idx, 3)) (hp : pc + 3 = pc') (hlk' : Cond.methodLink y.cls idx Lib.objectInit ∈ gt) (hin : Cond.instanceMethod Lib.objectInit ∈ gt) (hco : Cond.code Lib.objectInit ⟨#[0xb1]⟩ 1 none ∈ gt) (hR : 1 ≤ R.frames ∧ 20 ≤ R.locals) (hst : (st.map fun v => v.category).sum ≤ 8) (g : G l b cy D R y cc ret nL mc ms Z pc' lv st kc ks sh n σ) : G l b cy D R y cc ret nL mc ms Z pc lv (.ref (b + k) :: st) kc ks sh n σ := by
  subst hp
  intro p e s m args below meth c H locs ls hx hb hr hml hown hts hlk hmn hK hbs hW hS hl
  exact W.objInit hx hb hown (hts _ hlk') (hts _ hin) (hts _ hco) rfl (hl.1.trans hml.symm) rfl hd hR.1 (by show 2 * 0 + _ + 12 ≤ _; have := hR.2; omega) (g hx hb hr hml hown hts hlk hmn hK hbs hW hS hl)
theorem g_new {idx ci N : Nat} {C : String} {T : u_T} {q0 : List Nat} (hd : decode cc pc = .ok (.new idx, 3)) (hp : pc + 3 = pc') (hcl : Cond.classLink y.cls idx C ∈ gt) (hinst : Cond.instantiable C N ∈ gt) (hini : Cond.initialized C ∈ gt) (hc : vwCl[ci]? = some (C, T, N)) (hf : (List.range N).map (fun j => defaultValue (tyOf ci j)) = q0.map cv0) (hfr : frs q0) (hz : Zf σ n) (hn : n < NP) (hcs : kc + 1 ≤ R.cells ∧ ks + N ≤ R.slots) (hs : sh' n = .inl (ci, q0)) (ho : ∀ a, a < n → sh' a = sh a) (g : G l b cy D R y cc ret nL mc ms Z pc' lv (.ref (b + n) :: st) (kc + 1) (ks + N) sh' (n + 1) σ) : G l b cy D R y cc ret nL mc ms Z pc lv st kc ks sh n σ := by
  subst hp
  intro p e s m args below meth c H locs ls hx hb hr hml hown hts hlk hmn hK hbs hW hS hl
  have hKn := hK.1.1 ci _ hc
  have hin : ∀ w ∈ u_ws C T N, w ∈ gt := cl_in (C, T, N) (List.mem_of_getElem? hc)
  refine W.newcK hx hb hown (hts _ hcl) (hts _ hinst) (hts _ hini) rfl hd hcs.1 hcs.2 hKn.2.1 (hW.1 hn) fun H1 kC hkC e1 z1 o1 => ?_
  have hsz := hW.1 hn
  have hk : ∀ (k : Nat) (x : Nat × va_E), (wl b cy sh n σ)[k]? = some x → H1[x.1]? = H[x.1]? := fun k x hx => o1 x.1 (by have := (hW.2 k x hx).lt; omega)
  refine g hx hb hr hml hown hts hlk hmn hK hbs ⟨fun _ => by omega, ?_⟩ ⟨Nat.le_trans hS.1 (by omega), fun x h1 h2 => (o1 x (by have := hS.1; omega)).trans (hS.2.1 x h1 h2), hS.2.2⟩ hl
  rw [← wl_push (sh := sh) (σ := σ) (e := .inr (ci, q0.mapIdx (cv b σ n))) (by unfold ce; rw [hs]) (fun a ha => ce_sh (ho a ha))]
  refine (hW.2.kept hk).app (fun k x hx => ?_)
  have hz1 : k < 1 := (List.getElem?_eq_some_iff.mp hx).1
  rw [show k = 0 by omega] at hx
  cases hx
  refine ⟨_, hc, (u_born (tyOf ci) hts hin hKn hkC e1 (fun k hk => cl_ty ci (cl_lt hc) (C, T, N) hc k hk)).to (fun j hj => ?_)⟩
  have hl2 : q0.length = N := by have := congrArg List.length hf; simpa using this.symm
  have e9 : (q0.map cv0)[j]? = some (defaultValue (tyOf ci j)) := by rw [← hf]; simp [hj]
  have hj2 : j < q0.length := by omega
  rw [List.getElem?_map, List.getElem?_eq_getElem hj2] at e9
  have e10 : cv0 q0[j] = defaultValue (tyOf ci j) := Option.some.inj e9
  unfold vp_V
  rw [List.getD_eq_getElem?_getD, List.getElem?_mapIdx, List.getElem?_eq_getElem hj2, ← e10]
  exact (cv_0 hz (hfr _ (List.getElem_mem hj2))).symm
theorem g_newarr {aty : ArrayType} {t z : Nat} {i : Int32} (hd : decode cc pc = .ok (.newarray aty, 2)) (hp : pc + 2 = pc') (ht : (t = 0 ∧ aty = .int) ∨ (t = 1 ∧ aty = .long) ∨ (t = 2 ∧ aty = .boolean)) (harr : Cond.arrayClass (newarray.typeOf aty) ∈ gt) (hi : i = nI z) (hz31 : z < 100000) (hz : Zf σ n) (hn : n < NP) (hcs : kc + 1 ≤ R.cells ∧ ks + z ≤ R.slots) (hs : sh n = .inr (t, z, [])) (g : G l b cy D R y cc ret nL mc ms Z pc' lv (.ref (b + n) :: st) (kc + 1) (ks + z) sh (n + 1) σ) : G l b cy D R y cc ret nL mc ms Z pc lv (.int i :: st) kc ks sh n σ := by
  subst hp; subst hi
  intro p e s m args below meth c H locs ls hx hb hr hml hown hts hlk hmn hK hbs hW hS hl
  have hsz := hW.1 hn
  have z1f : σ.1 n = fun _ => 0 := funext (hz n (Nat.le_refl _)).1
  have z2f : σ.2 n = fun _ => 0 := funext (hz n (Nat.le_refl _)).2
  refine va_newaK hx hb (hts _ harr) rfl hd rfl (nI_pos (by omega)) (nI_clamp (by omega)) (by rcases ht with ⟨-, rfl⟩ | ⟨-, rfl⟩ | ⟨-, rfl⟩ <;> (show z * _ ≤ _; simp only [newarray.typeOf, componentBytes]; omega)) hcs.1 hcs.2 hsz fun H1 cA e1 z1 o1 hAr hNm => ?_
  have hk : ∀ (k : Nat) (x : Nat × va_E), (wl b cy sh n σ)[k]? = some x → H1[x.1]? = H[x.1]? := fun k x hx => o1 x.1 (by have := (hW.2 k x hx).lt; omega)
  refine g hx hb hr hml hown hts hlk hmn hK hbs ⟨fun _ => by omega, ?_⟩ ⟨Nat.le_trans hS.1 (by omega), fun x h1 h2 => (o1 x (by have := hS.1; omega)).trans (hS.2.1 x h1 h2), hS.2.2⟩ hl
  rw [← wl_push (sh := sh) (σ := σ) (e := .inl (cy t, z, ra b σ n t [])) (by unfold ce; rw [hs]) (fun a ha => rfl)]
  refine (hW.2.kept hk).app (fun k x hx => ?_)
  have hz1 : k < 1 := (List.getElem?_eq_some_iff.mp hx).1
  rw [show k = 0 by omega] at hx
  cases hx
  show H1[b + n]? = some (vp_cell (cy t) (z, ra b σ n t []))
  have hca : cA = cy t := by
    rcases ht with ⟨rfl, rfl⟩ | ⟨rfl, rfl⟩ | ⟨rfl, rfl⟩
    · exact Option.some.inj (hNm.symm.trans (hK.1.2 0 _ rfl).2)
    · exact Option.some.inj (hNm.symm.trans (hK.1.2 1 _ rfl).2)
    · exact Option.some.inj (hNm.symm.trans (hK.1.2 2 _ rfl).2)
  subst hca
  rw [e1]
  unfold ra
  rcases ht with ⟨rfl, rfl⟩ | ⟨rfl, rfl⟩ | ⟨rfl, rfl⟩
  · rw [if_pos (Or.inl rfl), z1f]; rfl
  · rw [if_neg (by decide), if_pos rfl, z2f]; rfl
  · rw [if_pos (Or.inr rfl), z1f]; rfl
theorem rfs_0 {b z : Nat} : rfs b (List.replicate z 0) = fun _ => none := by
  funext j
  unfold rfs
  rw [if_pos]
  rw [List.getD_eq_getElem?_getD, List.getElem?_replicate]
  split <;> rfl
theorem g_anew {t z idx : Nat} {i : Int32} {C : String} (hd : decode cc pc = .ok (.anewarray idx, 3)) (hp : pc + 3 = pc') (hcl : Cond.classLink y.cls idx C ∈ gt) (ht : (t = 3 ∧ C = RX5) ∨ (t = 4 ∧ C = RX3) ∨ (t = 5 ∧ C = RX1)) (hi : i = nI z) (hz31 : z < 100000) (hn : n < NP) (hcs : kc + 1 ≤ R.cells ∧ ks + z ≤ R.slots) (hs : sh' n = .inr (t, z, List.replicate z 0)) (ho : ∀ a, a < n → sh' a = sh a) (g : G l b cy D R y cc ret nL mc ms Z pc' lv (.ref (b + n) :: st) (kc + 1) (ks + z) sh' (n + 1) σ) : G l b cy D R y cc ret nL mc ms Z pc lv (.int i :: st) kc ks sh n σ := by
  subst hp; subst hi
  intro p e s m args below meth c H locs ls hx hb hr hml hown hts hlk hmn hK hbs hW hS hl
  have hsz := hW.1 hn
  have hao : va_AO C s := by
    rcases ht with ⟨-, rfl⟩ | ⟨-, rfl⟩ | ⟨-, rfl⟩
    · exact hK.2.2.2.1.1
    · exact hK.2.2.2.1.2.1
    · exact hK.2.2.2.1.2.2
  have ecl : (nI z).toNatClampNeg = z := nI_clamp (by omega)
  refine W.anew hx hb hown (hts _ hcl) (va_AO.use hao) rfl hd rfl (nI_pos (by omega)) (by rw [ecl]; omega) hcs.1 (by rw [ecl]; exact hcs.2) fun cA kA comp f1 f2 f3 f4 => ?_
  rw [ecl]
  generalize hH1 : H.push ({ cls := cA, slots := Array.replicate z .null, vm := .none } : Cell) = H1
  have z1 : H1.size = H.size + 1 := by rw [← hH1, Array.size_push]
  have e1 : H1[H.size]? = some (arrV cA z (fun _ => .null)) := by rw [← hH1, Array.getElem?_push_size, ← arrV_new]
  have o1 : ∀ q : Nat, q < H.size → H1[q]? = H[q]? := fun q hq => by rw [← hH1, Array.getElem?_push, if_neg (Nat.ne_of_lt hq)]
  have hk : ∀ (k : Nat) (x : Nat × va_E), (wl b cy sh n σ)[k]? = some x → H1[x.1]? = H[x.1]? := fun k x hx => o1 x.1 ((hW.2 k x hx).lt)
  rw [hsz] at e1 ⊢
  refine g hx hb hr hml hown hts hlk hmn hK hbs ⟨fun _ => by omega, ?_⟩ ⟨Nat.le_trans hS.1 (by omega), fun x h1 h2 => (o1 x (by have := hS.1; omega)).trans (hS.2.1 x h1 h2), hS.2.2⟩ hl
  rw [← wl_push (sh := sh) (σ := σ) (e := .inl (cy t, z, ra b σ n t (List.replicate z 0))) (by unfold ce; rw [hs]) (fun a ha => ce_sh (ho a ha))]
  refine (hW.2.kept hk).app (fun k x hx => ?_)
  have hz1 : k < 1 := (List.getElem?_eq_some_iff.mp hx).1
  rw [show k = 0 by omega] at hx
  cases hx
  show H1[b + n]? = some (vp_cell (cy t) (z, ra b σ n t (List.replicate z 0)))
  have hca : cA = cy t := by
    rcases ht with ⟨rfl, rfl⟩ | ⟨rfl, rfl⟩ | ⟨rfl, rfl⟩
    · obtain ⟨_, _, _, _, _, h9⟩ := (hK.1.2 3 _ rfl).2
      exact Option.some.inj (f1.symm.trans h9)
    · obtain ⟨_, _, _, _, _, h9⟩ := (hK.1.2 4 _ rfl).2
      exact Option.some.inj (f1.symm.trans h9)
    · obtain ⟨_, _, _, _, _, h9⟩ := (hK.1.2 5 _ rfl).2
      exact Option.some.inj (f1.symm.trans h9)
  subst hca
  rw [e1]
  unfold ra
  rw [if_neg (by omega), if_neg (by omega), rfs_0]
  rfl
/-- a final field of its own class -/
def QLk (own : String) (idx ci j : Nat) (ty : FieldType) : Prop := ∃ (C : String) (T : u_T) (N : Nat), vwCl[ci]? = some (C, T, N) ∧ j < N ∧ (T j).1 = C ∧ C = own ∧ (T j).2.2.2 = true ∧ tyOf ci j = ty ∧ Cond.fieldLink own idx C (T j).2.1 (T j).2.2.1 ∈ gt
theorem mi_setR {b : Nat} {σ : Sg} {k j a : Nat} {q : List Nat} (h : j < q.length) : (q.mapIdx (cv b σ k)).set j (.ref (b + a)) = (q.set j (a + 3)).mapIdx (cv b σ k) := by
  apply List.ext_getElem?
  intro i
  rw [List.getElem?_set, List.getElem?_mapIdx, List.getElem?_mapIdx, List.length_mapIdx, List.getElem?_set]
  by_cases e : j = i
  · subst e
    rw [if_pos rfl, if_pos h, if_pos rfl, if_pos h]
    simp only [Option.map_some, cv_r]
  · rw [if_neg e, if_neg e]
theorem g_putR {k ci j idx a : Nat} {q : List Nat} {ty : FieldType} (hd : decode cc pc = .ok (.putfield idx, 3)) (hp : pc + 3 = pc') (hf : QLk y.cls idx ci j ty) (hy : y.name = "<init>") (hk : isO sh n k ci q) (hj : j < q.length) (hty' : ∀ z, narrow ty (.ref z) = .ref z ∧ fits ty (.ref z) = true) (hs : sh' k = .inl (ci, q.set j (a + 3))) (ho : ∀ a, a ≠ k → sh' a = sh a) (g : G l b cy D R y cc ret nL mc ms Z pc' lv st kc ks sh' n σ) : G l b cy D R y cc ret nL mc ms Z pc lv (.ref (b + a) :: .ref (b + k) :: st) kc ks sh n σ := by
  subst hp
  intro p e s m args below meth c H locs ls hx hb hr hml hown hts hlk hmn hK hbs hW hS hl
  obtain ⟨C, T, N, h1, h2, h3, hC, h5, h6, h4⟩ := hf
  have hm : (C, T, N) ∈ vwCl := List.mem_of_getElem? h1
  have hin : ∀ w ∈ u_ws C T N, w ∈ gt := cl_in (C, T, N) hm
  have hlen : j < (q.mapIdx (cv b σ k)).length := by rw [List.length_mapIdx]; exact hj
  have hty : parseFieldDescriptor (T j).2.2.1 = some ty := by rw [← h6]; exact cl_ty ci (cl_lt h1) (C, T, N) h1 j h2
  have hap := va_apart (own := y.cls) hts hin (tyOf ci) (fun k hk => cl_ty ci (cl_lt h1) (C, T, N) h1 k hk) (cl_nm (C, T, N) hm) hK.1 h1
  obtain ⟨r, g1, cell, q1, q2, q3, q4⟩ := hW.2 k _ (wl_o σ hk)
  have hr' : r = (C, T, N) := Option.some.inj (g1.symm.trans h1)
  subst hr'
  obtain ⟨hSl, hfc, kC, hkC, hkind⟩ := hK.1.1 ci _ h1
  obtain ⟨cf, kf, fi, f, hi, hsl⟩ := hSl j h2
  have hlay := hts _ (hin _ (u_in_lay h2))
  unfold u_lay at hlay
  rw [if_pos h5] at hlay
  have hst := (u_facts hfc hkC (u_lays hts hin h2) hi).1
  have hcf : m.cls = cf := by
    obtain ⟨_, _, c', _, _, _, -, -, hf', -, -, -, hown2, -⟩ := Cond.laysFinal_spec hlay
    have e1 : c' = cf := by have := hi.symm.trans hf'; simp at this; exact this.1.symm
    rw [h3, hC] at hown2
    rw [← e1]; exact Option.some.inj (hown.symm.trans hown2)
  have h6' := u_fits hfc hkC hkind (Or.inr hlay) hi hty (hty' (b + a)).1 (hty' (b + a)).2
  have hsame : ∀ x, s.fieldFound? (T j).1 (T j).2.1 (T j).2.2.1 = some x → s.fieldFound? C (T j).2.1 (T j).2.2.1 = some x := fun _ h9 => by rw [h3] at h9; exact h9
  refine W.putFinK hx hb hown (hts _ h4) (hsame _ hi) hst hcf (hmn.trans hy) (by rw [q2]; exact h6') q1 q3 (by rw [hsl]; exact k2_hasslot (q4 j h2)) rfl rfl hd fun H' e1 e2 e3 => ?_
  rw [hsl] at e1 ⊢
  have hP := hW.2.set wl_D (wl_o σ hk) (e := .inr (ci, (q.mapIdx (cv b σ k)).set j (.ref (b + a)))) ⟨_, h1, t_OB.to (V := updV (vp_V (q.mapIdx (cv b σ k))) j (.ref (b + a))) ⟨_, e1, q2, q3, t_set q4 hap h2 _⟩ (fun i _ => vp_updV_set hlen _ i)⟩ e3
  rw [wl_set (sh' := sh') (σ' := σ) hk.1 (by unfold ce; rw [hs, mi_setR hj]) (fun a ha => ce_sh (ho a ha))] at hP
  exact g hx hb hr hml hown hts hlk hmn hK hbs ⟨fun h => e2.trans (hW.1 h), hP⟩ (hS.put e2 e3 (Nat.le_add_right b k)) hl
theorem rfs_set {b j a : Nat} {q : List Nat} (h : j < q.length) : va_up (rfs b q) j (some (b + a)) = rfs b (q.set j (a + 1)) := by
  funext i
  unfold va_up rfs
  rw [List.getD_eq_getElem?_getD, List.getD_eq_getElem?_getD, List.getElem?_set]
  by_cases e : i = j
  · subst e
    rw [if_pos rfl, if_pos rfl, if_pos h]
    simp
  · have e2 : ¬ j = i := fun z => e z.symm
    rw [if_neg e, if_neg e2]
theorem g_aast {k t z j a ci : Nat} {q qa : List Nat} {i : Int32} {r : vw_C} (hd : decode cc pc = .ok (.aastore, 1)) (hp : pc + 1 = pc') (hk : isR sh n k t z q) (ht : 3 ≤ t) (hty : (tyl cy)[t]? = some (cy t, .object r.1)) (ha : isO sh n a ci qa) (hc : vwCl[ci]? = some r) (hz : z < 2 ^ 31) (hi : i = nI j) (hj : j < z) (hl9 : q.length = z) (hs : sh' k = .inr (t, z, q.set j (a + 1))) (ho : ∀ a, a ≠ k → sh' a = sh a) (g : G l b cy D R y cc ret nL mc ms Z pc' lv st kc ks sh' n σ) : G l b cy D R y cc ret nL mc ms Z pc lv (.ref (b + a) :: .int i :: .ref (b + k) :: st) kc ks sh n σ := by
  subst hp; subst hi
  intro p e s m args below meth c H locs ls hx hb hr hml hown hts hlk hmn hK hbs hW hS hl
  have hR : ra b σ k t q = .inr (.inr (.inr (.inr (rfs b q)))) := by unfold ra; rw [if_neg (by omega), if_neg (by omega)]
  have h0 : ¬ nI j < 0 := nI_pos (by omega)
  have ecl : (nI j).toNatClampNeg = j := nI_clamp (by omega)
  obtain ⟨r', hr', cellV, g1, g2, g3, -⟩ := hW.2 a _ (wl_o σ ha)
  have hcls := (hK.1.1 ci r hc).2
  obtain ⟨kA, comp, k1, k2, k3, -⟩ := (hK.1.2 t _ hty).2
  have hcomp : comp = D.1 ci := Option.some.inj (k3.symm.trans hcls.1)
  subst hcomp
  obtain ⟨kC, hkC, -⟩ := hcls.2
  have hcell : H[b + k]? = some (vp_cell (cy t) (z, ra b σ k t q)) := hW.2 k _ (wl_r σ hk)
  rw [hR] at hcell
  refine W.aast hx hb hcell (fun q h => by cases h) (fun h => by cases h) k1 k2 rfl hkC ⟨h0, by rw [ecl]; show _ < (arrV _ _ _).slots.size; rw [arrV_size]; exact hj⟩ g1 (fun q h => by rw [g3] at h; cases h) (by rw [g2]; exact hkC) (by rw [g2]; exact va_assign hcls) rfl rfl hd fun H1 e1 z1 oq => ?_
  rw [ecl] at e1 ⊢
  have hP := hW.2.set wl_D (wl_r σ hk) (e := .inl (cy t, z, .inr (.inr (.inr (.inr (rfs b (q.set j (a + 1)))))))) (by
    show H1[b + k]? = some (vp_cell _ _)
    rw [e1, vp_cell_q, vp_cell_q, arrV_store, ← rfs_set (by omega)]
    congr 2
    funext i
    by_cases hq : i = j
    · subst hq
      simp [updV, va_up, va_rf]
    · simp [updV, va_up, hq]) oq
  rw [wl_set (sh' := sh') (σ' := σ) hk.1 (by unfold ce; rw [hs]; show Sum.inl (cy t, z, ra b σ k t (q.set j (a + 1))) = _; unfold ra; rw [if_neg (by omega), if_neg (by omega)]) (fun a ha => ce_sh (ho a ha))] at hP
  exact g hx hb hr hml hown hts hlk hmn hK hbs ⟨fun h => z1.trans (hW.1 h), hP⟩ (hS.put z1 oq (Nat.le_add_right b k)) hl
def ILk (own : String) (idx : Nat) (y : MethodName) (cc : ByteArray) (nL na : Nat) : Prop := (Cond.methodLink own idx y ∈ gt ∨ ∃ host : String, Cond.methodLinkNest own idx y host ∈ nestM) ∧ Cond.instanceMethod y ∈ gt ∧ Cond.initialized y.cls ∈ gt ∧ Cond.code y cc nL none ∈ gt ∧ y.name = "<init>" ∧ (y.cls ≠ "java/lang/invoke/MethodHandle" ∧ y.cls ≠ "java/lang/invoke/VarHandle" ∧ (parseMethodDescriptor y.desc).map (fun d => d.parameters.length) = some na)
theorem g_init {y' : MethodName} {cc' : ByteArray} {nL' na k idx : Nat} {R' : Room} {As st0 : List Value} {sh2 : Nat → Shp} {n2 : Nat} {σ2 : Sg} {mc' ms' : Nat} (hd : decode cc pc = .ok (.invokespecial idx, 3)) (hp : pc + 3 = pc') (hL : ILk y.cls idx y' cc' nL' na) (hM : Ev l b cy D R' y' cc' none nL' mc' ms' (.ref (b + k) :: As) sh n σ (none, sh2, n2, σ2)) (hR : RmO R R' nL') (hR0 : R'.cells = mc' ∧ R'.slots = ms') (hcs : kc + mc' ≤ R.cells ∧ ks + ms' ≤ R.slots) (hna : As.length = na) (hst : st0 = As.reverse ++ .ref (b + k) :: st) (hrm : (st.map fun v => v.category).sum ≤ 8) (g : G l b cy D R y cc ret nL mc ms Z pc' lv st (kc + mc') (ks + ms') sh2 n2 σ2) : G l b cy D R y cc ret nL mc ms Z pc lv st0 kc ks sh n σ := by
  subst hp
  intro p e s m args below meth c H locs ls hx hb hr hml hown hts hlk hmn hK hbs hW hS hl
  obtain ⟨h1, h2, h4, h5, h8, h6⟩ := hL
  rcases h1 with h1 | ⟨host, h1⟩
  · refine w_back (va_runI (As := As) (rest := st) (n := na) ⟨hx, hb, hml, hown, hts⟩ hM ⟨callB_of na hts (gt_ws h5) rfl hR0.1 hR0.2 (hts _ h4) (hts _ h1) h6 hR, h8, hts _ h2⟩ ⟨px_blind, px_at hK hW hS⟩ rfl hna hl.1 hst (lv_room hrm) hd hcs) hS (fun H1 locs1 hW1 hS1 => ?_)
    exact g hx hb hr hml hown hts hlk hmn hK hbs hW1 hS1 hl
  · refine w_back (va_runIN (As := As) (rest := st) (n := na) (host := host) ⟨hx, hb, hml, hown, hts⟩ hM ⟨va_cnB na hts (gt_ws h5) rfl hR0.1 hR0.2 (hK.2.2.1 _ h1) (hts _ h4) h6 hR, h8, hts _ h2⟩ ⟨px_blind, px_at hK hW hS⟩ rfl hna hl.1 hst (lv_room hrm) hd hcs) hS (fun H1 locs1 hW1 hS1 => ?_)
    exact g hx hb hr hml hown hts hlk hmn hK hbs hW1 hS1 hl
end
