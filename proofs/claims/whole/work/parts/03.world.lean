/-! The one world: n cells from address b on, by their shapes (sh), their ints and longs (σ). -/
/-- the words that stay good at a call -/
def gt : List Cond := lw_tbl.filter goodWord
theorem gt_mem {w : Cond} (i : Nat) (h : lw_tbl[i]? = some w) (g : goodWord w = true) : w ∈ gt := List.mem_filter.mpr ⟨List.mem_of_getElem? h, g⟩
theorem gt_good {w : Cond} (h : w ∈ gt) : goodWord w = true := (List.mem_filter.mp h).2
abbrev Sg : Type := (Nat → Nat → Int32) × (Nat → Nat → Int64)
def u2 {α : Type} (f : Nat → Nat → α) (k j : Nat) (v : α) : Nat → Nat → α := fun a i => if a = k ∧ i = j then v else f a i
theorem u2_eq {α : Type} (f : Nat → Nat → α) (k j : Nat) (v : α) : u2 f k j v k j = v := if_pos ⟨rfl, rfl⟩
theorem u2_k {α : Type} {f : Nat → Nat → α} {k j a i : Nat} {v : α} (h : a ≠ k) : u2 f k j v a i = f a i := if_neg (fun q => h q.1)
theorem u2_j {α : Type} {f : Nat → Nat → α} {k j a i : Nat} {v : α} (h : i ≠ j) : u2 f k j v a i = f a i := if_neg (fun q => h q.2)
/-- an object: its number among the kinds, and for each slot 0 int, 1 long, 2 null, p + 3 the cell at place p; a row: kind, length, for rows of cells 0 null, p + 1 the cell at place p -/
abbrev Shp : Type := (Nat × List Nat) ⊕ (Nat × Nat × List Nat)
def cv (b : Nat) (σ : Sg) (k : Nat) (j q : Nat) : Value := if q = 0 then .int (σ.1 k j) else if q = 1 then .long (σ.2 k j) else if q = 2 then .null else .ref (b + (q - 3))
def rfs (b : Nat) (rs : List Nat) (j : Nat) : Option Nat := if rs.getD j 0 = 0 then none else some (b + (rs.getD j 0 - 1))
def ra (b : Nat) (σ : Sg) (k t : Nat) (rs : List Nat) : (Nat → Int32) ⊕ (Nat → Int64) ⊕ (Nat → UInt32) ⊕ (Nat → UInt64) ⊕ (Nat → Option Nat) :=
  if t = 0 ∨ t = 2 then .inl (σ.1 k) else if t = 1 then .inr (.inl (σ.2 k)) else .inr (.inr (.inr (.inr (rfs b rs))))
def ce (b : Nat) (cy : Nat → ClassId) (sh : Nat → Shp) (σ : Sg) (k : Nat) : va_E := match sh k with
  | .inl o => .inr (o.1, o.2.mapIdx (cv b σ k))
  | .inr r => .inl (cy r.1, r.2.1, ra b σ k r.1 r.2.2)
def wl (b : Nat) (cy : Nat → ClassId) (sh : Nat → Shp) (n : Nat) (σ : Sg) : va_W := (List.range n).map (fun k => (b + k, ce b cy sh σ k))
theorem wl_at {b : Nat} {cy : Nat → ClassId} {sh : Nat → Shp} {n : Nat} {σ : Sg} {k : Nat} (h : k < n) : (wl b cy sh n σ)[k]? = some (b + k, ce b cy sh σ k) := by
  simp [wl, h]
theorem wl_len {b : Nat} {cy : Nat → ClassId} {sh : Nat → Shp} {n : Nat} {σ : Sg} : (wl b cy sh n σ).length = n := by simp [wl]
theorem wl_D {b : Nat} {cy : Nat → ClassId} {sh : Nat → Shp} {n : Nat} {σ : Sg} : va_D (fun q => b ≤ q) (wl b cy sh n σ) := by
  have key : ∀ (i : Nat) (p : Nat × va_E), (wl b cy sh n σ)[i]? = some p → p.1 = b + i := by
    intro i p h
    have hl : i < n := by
      have := (List.getElem?_eq_some_iff.mp h).1
      rwa [wl_len] at this
    rw [wl_at hl] at h
    rw [← Option.some.inj h]
  refine ⟨fun i j p q h1 h2 e => ?_, fun k q h => ?_⟩
  · have e1 := key i p h1
    have e2 := key j q h2
    omega
  · have e1 := key k q h
    show b ≤ q.1
    omega
theorem wl_set {b : Nat} {cy : Nat → ClassId} {sh sh' : Nat → Shp} {n : Nat} {σ σ' : Sg} {k : Nat} {e : va_E} (h : k < n) (he : ce b cy sh' σ' k = e) (ho : ∀ a, a ≠ k → ce b cy sh' σ' a = ce b cy sh σ a) : (wl b cy sh n σ).set k (b + k, e) = wl b cy sh' n σ' := by
  apply List.ext_getElem?
  intro i
  rw [List.getElem?_set]
  by_cases hi : i < n
  · rw [wl_at hi, wl_at hi]
    by_cases hk : k = i
    · subst hk
      rw [if_pos rfl, if_pos (by rw [wl_len]; exact h), he]
    · rw [if_neg hk, ho i (fun q => hk q.symm)]
  · have h1 : (wl b cy sh n σ)[i]? = none := by rw [List.getElem?_eq_none_iff, wl_len]; omega
    have h2 : (wl b cy sh' n σ')[i]? = none := by rw [List.getElem?_eq_none_iff, wl_len]; omega
    rw [h1, h2, if_neg (by omega)]
theorem wl_push {b : Nat} {cy : Nat → ClassId} {sh sh' : Nat → Shp} {n : Nat} {σ σ' : Sg} {e : va_E} (he : ce b cy sh' σ' n = e) (ho : ∀ a, a < n → ce b cy sh' σ' a = ce b cy sh σ a) : wl b cy sh n σ ++ [(b + n, e)] = wl b cy sh' (n + 1) σ' := by
  apply List.ext_getElem?
  intro i
  by_cases hi : i < n
  · rw [List.getElem?_append_left (by rw [wl_len]; exact hi), wl_at hi, wl_at (by omega), ho i hi]
  · rw [List.getElem?_append_right (by rw [wl_len]; omega), wl_len]
    by_cases h2 : i = n
    · subst h2
      rw [wl_at (by omega), he]
      simp
    · have h3 : (wl b cy sh' (n + 1) σ')[i]? = none := by rw [List.getElem?_eq_none_iff, wl_len]; omega
      rw [h3, List.getElem?_eq_none_iff]
      simp
      omega
/-- the kinds of rows -/
def tyl (cy : Nat → ClassId) : List (ClassId × FieldType) := [(cy 0, .int), (cy 1, .long), (cy 2, .boolean), (cy 3, .object RX5), (cy 4, .object RX3), (cy 5, .object RX1)]
/-- links to private fields of another one of the nest -/
def nestW : List Cond := lw_tbl.filter (fun w => match w with | .fieldLinkNest .. => true | _ => false)
def nestM : List Cond := lw_tbl.filter (fun w => match w with | .methodLinkNest .. => true | _ => false)
abbrev sTx : List (List Int32) := [[82, 76, 114, 108, 83, 115]]
/-- the text constant lies at D.2 100 0, its bytes at D.2 100 1 -/
def Kst (b : Nat) (D : va_G) (U : State) : Prop := vk_S 1 [6] sTx (fun _ => D.2 100 0) (fun _ => D.2 100 1) (fun q => b ≤ q) U U.heap ∧ vk_R RX10 244 "RLrlSs" (D.2 100 0) U ∧
  va_Z "java/lang/String" "COMPACT_STRINGS" "Z" (.int 1) (fun q => b ≤ q) U U.heap ∧ va_Zq "jdk/internal/util/Preconditions" "SIOOBE_FORMATTER" "Ljava/util/function/BiFunction;" (fun q => b ≤ q) U U.heap
def Kx (b : Nat) (cy : Nat → ClassId) (D : va_G) (U : State) : Prop := va_K D vwCl (tyl cy) U ∧ (∀ w ∈ nestW, va_Nw w U) ∧ (∀ w ∈ nestM, va_Nw w U) ∧ (va_AO RX5 U ∧ va_AO RX3 U ∧ va_AO RX1 U) ∧ Kst b D U
/-- how many cells there are once all is made; until then the heap ends with the last one -/
def NP : Nat := 171
def Wd (b : Nat) (cy : Nat → ClassId) (D : va_G) (sh : Nat → Shp) (n : Nat) (σ : Sg) (H : Heap) : Prop := (n < NP → H.size = b + n) ∧ va_P D vwCl (wl b cy sh n σ) H
theorem Wd.le {b : Nat} {cy : Nat → ClassId} {D : va_G} {sh : Nat → Shp} {n : Nat} {σ : Sg} {H : Heap} (h : Wd b cy D sh n σ H) : b ≤ H.size := by
  by_cases h0 : n = 0
  · have := h.1 (by rw [h0]; decide)
    omega
  · have := (h.2 0 _ (wl_at (by omega))).lt
    have h2 : b + 0 < H.size := this
    omega
theorem Kst.go {b : Nat} {D : va_G} {s U : State} (hW : s.WarmedH U.vm) (hq : ∀ a : Nat, a < s.heap.size → ¬ b ≤ a → U.heap[a]? = s.heap[a]?) (h : Kst b D s) : Kst b D U := by
  obtain ⟨h1, h2, h3, h4⟩ := h
  exact ⟨(h1.moved hW.alike).kept hq, h2.warm hW, (h3.moved hW.alike).kept hq, (h4.moved hW.alike).kept hq⟩
theorem Kst.same {b : Nat} {D : va_G} {s U : State} (hv : s.vm = U.vm) (hh : U.heap = s.heap) (h : Kst b D s) : Kst b D U := by
  obtain ⟨h1, h2, h3, h4⟩ := h
  have ha : s.vm.Alike U.vm := hv ▸ Vm.Alike.refl s.vm
  refine ⟨?_, vk_R.same hv.symm h2, ?_, ?_⟩
  · rw [hh]; exact h1.moved ha
  · rw [hh]; exact h3.moved ha
  · rw [hh]; exact h4.moved ha
theorem Kx.go {b : Nat} {cy : Nat → ClassId} {D : va_G} {s U : State} (hW : s.WarmedH U.vm) (hq : ∀ a : Nat, a < s.heap.size → ¬ b ≤ a → U.heap[a]? = s.heap[a]?) (h : Kx b cy D s) : Kx b cy D U := by
  obtain ⟨h1, h2, h3, ⟨h4, h5, h6⟩, h7⟩ := h
  refine ⟨h1.moved hW.alike, fun w hw => ?_, fun w hw => ?_, ⟨h4.moved hW.alike, h5.moved hW.alike, h6.moved hW.alike⟩, h7.go hW hq⟩
  · have hz := h2 w hw
    have hk := (List.mem_filter.mp hw).2
    cases w <;> first | exact hz.warmF hW | exact absurd hk Bool.false_ne_true
  · have hz := h3 w hw
    have hk := (List.mem_filter.mp hw).2
    cases w <;> first | exact hz.warmM hW | exact absurd hk Bool.false_ne_true
theorem Kx.same {b : Nat} {cy : Nat → ClassId} {D : va_G} {s U : State} (hv : s.vm = U.vm) (hh : U.heap = s.heap) (h : Kx b cy D s) : Kx b cy D U := by
  obtain ⟨h1, h2, h3, ⟨h4, h5, h6⟩, h7⟩ := h
  have ha : s.vm.Alike U.vm := hv ▸ Vm.Alike.refl s.vm
  refine ⟨h1.moved ha, fun w hw => ?_, fun w hw => ?_, ⟨h4.moved ha, h5.moved ha, h6.moved ha⟩, h7.same hv hh⟩
  · have hz := h2 w hw
    have hk := (List.mem_filter.mp hw).2
    exact va_Nw.same (by cases w <;> first | rfl | exact absurd hk Bool.false_ne_true) hv hz
  · have hz := h3 w hw
    have hk := (List.mem_filter.mp hw).2
    exact va_Nw.same (by cases w <;> first | rfl | exact absurd hk Bool.false_ne_true) hv hz
/-- the end of a method: its answer, the world behind it -/
abbrev Zt : Type := Option Value × (Nat → Shp) × Nat × Sg
def Qx (b : Nat) (cy : Nat → ClassId) (D : va_G) (Z : Zt) : Array Value → State → Outcome → State → Prop := fun _ st oc t => oc = .returned Z.1 ∧ Wd b cy D Z.2.1 Z.2.2.1 Z.2.2.2 t.heap ∧ va_F (fun q => b ≤ q) st t
def Px (b : Nat) (cy : Nat → ClassId) (D : va_G) (av : List Value) (sh : Nat → Shp) (n : Nat) (σ : Sg) : Array Value → State → Prop := fun v U => v = av.toArray ∧ Kx b cy D U ∧ Wd b cy D sh n σ U.heap
/-- a method called with av in the world sh, n, σ ends as Z says -/
def Ev (l : Launch) (b : Nat) (cy : Nat → ClassId) (D : va_G) (R : Room) (y : MethodName) (cc : ByteArray) (ret : Option FieldType) (nL mc ms : Nat) (av : List Value) (sh : Nat → Shp) (n : Nat) (σ : Sg) (Z : Zt) : Prop :=
  Met l y (Cond.code y cc nL ret :: gt) R (Px b cy D av sh n σ) (Qx b cy D Z) mc ms (fun q => b ≤ q)
/-- the method y, at pc with locals lv and stack st in the world sh, n, σ, comes to the end Z -/
def G (l : Launch) (b : Nat) (cy : Nat → ClassId) (D : va_G) (R : Room) (y : MethodName) (cc : ByteArray) (ret : Option FieldType) (nL mc ms : Nat) (Z : Zt) (pc : Nat) (lv : List (Nat × Value)) (st : List Value) (kc ks : Nat) (sh : Nat → Shp) (n : Nat) (σ : Sg) : Prop :=
  ∀ ⦃p : Program⦄ ⦃e : Env⦄ ⦃s : State⦄ ⦃m : MethodId⦄ ⦃args : Array Value⦄ ⦃below : List Frame⦄ ⦃meth : Method⦄ ⦃c : Code⦄ ⦃H : Heap⦄ ⦃locs : List Loc⦄ ⦃ls : Array Slot⦄,
    p.tables.exec = Jvm.exec → c.code = cc → meth.sig.returnType = ret → c.maxLocals = nL → s.vm.findClass y.cls = some m.cls → (∀ w ∈ gt, w.before args s = true) → meth.locks = false → meth.name = y.name → Kx b cy D s → b ≤ s.heap.size →
    Wd b cy D sh n σ H → va_S (fun q => b ≤ q) s.heap H locs → lv_has ls nL lv →
    W p l e R s m args below meth c H locs kc ks (MQ below (Qx b cy D Z) args s mc ms (fun q => b ≤ q)) (F0 m pc ls st)
set_option maxRecDepth 20000 in
theorem Ev.of {l : Launch} {b : Nat} {cy : Nat → ClassId} {D : va_G} {R : Room} {y : MethodName} {cc : ByteArray} {ret : Option FieldType} {nL mc ms : Nat} {av : List Value} {lv : List (Nat × Value)} {sh : Nat → Shp} {n : Nat} {σ : Sg} {Z : Zt} (hy : plainName y.cls = true) (hav : (lg_sl av).length ≤ nL) (hlv : lv_args 0 av = lv)
    (g : G l b cy D R y cc ret nL mc ms Z 0 lv [] 0 0 sh n σ) : Ev l b cy D R y cc ret nL mc ms av sh n σ Z := by
  refine Met.ofW (cc := cc) (maxL := nL) (ret := ret) hy rfl ?_
  intro p e s m args below meth c s₁ B hml hv
  obtain ⟨rfl, hK, hW⟩ := hv
  have hts := atoms_spec (ws := Cond.code y cc nL ret :: gt) B.pre
  have hl := lv_entry av (n := nL) hav
  rw [hlv] at hl
  rw [lg_entry_eq]
  generalize (lg_sl av ++ List.replicate (nL - (lg_sl av).length) Slot.unset).toArray = ls at hl ⊢
  exact g B.exec B.bytes B.returns hml (findClass_of_methodNamed B.named) (fun w hw => hts w (List.mem_cons_of_mem _ hw)) B.notSynchronized (name_of_methodNamed B.named B.method).1 hK hW.le hW va_S.rf hl
/-- a place that holds an object, a row -/
def isO (sh : Nat → Shp) (n k ci : Nat) (q : List Nat) : Prop := k < n ∧ sh k = .inl (ci, q)
def isR (sh : Nat → Shp) (n k t z : Nat) (q : List Nat) : Prop := k < n ∧ sh k = .inr (t, z, q)
theorem ce_o {b : Nat} {cy : Nat → ClassId} {sh : Nat → Shp} {n k ci : Nat} {q : List Nat} (σ : Sg) (h : isO sh n k ci q) : ce b cy sh σ k = .inr (ci, q.mapIdx (cv b σ k)) := by
  unfold ce; rw [h.2]
theorem ce_r {b : Nat} {cy : Nat → ClassId} {sh : Nat → Shp} {n k t z : Nat} {q : List Nat} (σ : Sg) (h : isR sh n k t z q) : ce b cy sh σ k = .inl (cy t, z, ra b σ k t q) := by
  unfold ce; rw [h.2]
theorem wl_o {b : Nat} {cy : Nat → ClassId} {sh : Nat → Shp} {n k ci : Nat} {q : List Nat} (σ : Sg) (h : isO sh n k ci q) : (wl b cy sh n σ)[k]? = some (b + k, .inr (ci, q.mapIdx (cv b σ k))) := by rw [wl_at h.1, ce_o σ h]
theorem wl_r {b : Nat} {cy : Nat → ClassId} {sh : Nat → Shp} {n k t z : Nat} {q : List Nat} (σ : Sg) (h : isR sh n k t z q) : (wl b cy sh n σ)[k]? = some (b + k, .inl (cy t, z, ra b σ k t q)) := by rw [wl_at h.1, ce_r σ h]
/-- another place is not touched by a change at place k -/
theorem ce_ne1 {b : Nat} {cy : Nat → ClassId} {sh : Nat → Shp} {σ : Sg} {k j a : Nat} {v : Int32} (h : a ≠ k) : ce b cy sh (u2 σ.1 k j v, σ.2) a = ce b cy sh σ a := by
  have e : u2 σ.1 k j v a = σ.1 a := funext fun i => u2_k h
  unfold ce
  cases sh a with
  | inl o =>
    have : cv b (u2 σ.1 k j v, σ.2) a = cv b σ a := by funext i q; simp only [cv, e]
    simp only [this]
  | inr r => simp only [ra, e]
theorem ce_ne2 {b : Nat} {cy : Nat → ClassId} {sh : Nat → Shp} {σ : Sg} {k j a : Nat} {v : Int64} (h : a ≠ k) : ce b cy sh (σ.1, u2 σ.2 k j v) a = ce b cy sh σ a := by
  have e : u2 σ.2 k j v a = σ.2 a := funext fun i => u2_k h
  unfold ce
  cases sh a with
  | inl o =>
    have : cv b (σ.1, u2 σ.2 k j v) a = cv b σ a := by funext i q; simp only [cv, e]
    simp only [this]
  | inr r => simp only [ra, e]
theorem mi_get {b : Nat} {σ : Sg} {k j c : Nat} {q : List Nat} (h : q[j]? = some c) : (q.mapIdx (cv b σ k))[j]? = some (cv b σ k j c) := by rw [List.getElem?_mapIdx, h]; rfl
theorem mi_set1 {b : Nat} {σ : Sg} {k j : Nat} {q : List Nat} {v : Int32} (h : q[j]? = some 0) : (q.mapIdx (cv b σ k)).set j (.int v) = q.mapIdx (cv b (u2 σ.1 k j v, σ.2) k) := by
  apply List.ext_getElem?
  intro i
  rw [List.getElem?_set, List.getElem?_mapIdx, List.getElem?_mapIdx, List.length_mapIdx]
  by_cases e : j = i
  · subst e
    rw [if_pos rfl, if_pos (List.getElem?_eq_some_iff.mp h).1, h]
    simp [cv, u2]
  · rw [if_neg e]
    cases hq : q[i]? with
    | none => rfl
    | some c =>
      have e' : ¬ i = j := fun z => e z.symm
      simp [cv, u2, e']
theorem mi_set2 {b : Nat} {σ : Sg} {k j : Nat} {q : List Nat} {v : Int64} (h : q[j]? = some 1) : (q.mapIdx (cv b σ k)).set j (.long v) = q.mapIdx (cv b (σ.1, u2 σ.2 k j v) k) := by
  apply List.ext_getElem?
  intro i
  rw [List.getElem?_set, List.getElem?_mapIdx, List.getElem?_mapIdx, List.length_mapIdx]
  by_cases e : j = i
  · subst e
    rw [if_pos rfl, if_pos (List.getElem?_eq_some_iff.mp h).1, h]
    simp [cv, u2]
  · rw [if_neg e]
    cases hq : q[i]? with
    | none => rfl
    | some c =>
      have e' : ¬ i = j := fun z => e z.symm
      simp [cv, u2, e']
/-- what the tables say of the kinds -/
def tyOf (ci : Nat) : Nat → FieldType := [tyX0, tyX1, tyX2, tyX3, tyX4, tyX5, tyX6, tyX7, tyX8, tyX9, tyX10, tyX11].getD ci tyX0
theorem cl_in : ∀ q ∈ vwCl, ∀ w ∈ u_ws q.1 q.2.1 q.2.2, w ∈ gt := by
  have h : ∀ q ∈ vwCl, (u_ws q.1 q.2.1 q.2.2).all (fun w => lw_tbl.contains w && goodWord w) = true := by decide +kernel
  intro q hq w hw
  have h1 := List.all_eq_true.mp (h q hq) w hw
  rw [Bool.and_eq_true] at h1
  exact List.mem_filter.mpr ⟨List.contains_iff_mem.mp h1.1, h1.2⟩
theorem cl_ty : ∀ ci, ci < 12 → ∀ q, vwCl[ci]? = some q → ∀ k, k < q.2.2 → parseFieldDescriptor (q.2.1 k).2.2.1 = some (tyOf ci k) := by
  have h : (List.range 12).all (fun ci => match vwCl[ci]? with | some q => (List.range q.2.2).all (fun k => decide (parseFieldDescriptor (q.2.1 k).2.2.1 = some (tyOf ci k))) | none => true) = true := by decide +kernel
  intro ci hc q hq k hk
  have h1 := List.all_eq_true.mp h ci (List.mem_range.mpr hc)
  rw [hq] at h1
  exact of_decide_eq_true (List.all_eq_true.mp h1 k (List.mem_range.mpr hk))
theorem cl_nm : ∀ q ∈ vwCl, ∀ a, a < q.2.2 → ∀ b, b < q.2.2 → a ≠ b → (q.2.1 a).2.1 ≠ (q.2.1 b).2.1 := by decide +kernel
theorem cl_lt {ci : Nat} {q : vw_C} (h : vwCl[ci]? = some q) : ci < 12 := (List.getElem?_eq_some_iff.mp h).1
