/-! By how many letters a product is turned into another. -/
def BgP (A B : Mx) (k : Nat) : Prop := ∃ w : List Bool, mw w = A ∧ k ≤ w.length ∧ mw (rtl w k) = B
theorem rt_rep_t {n k : Nat} {v : List Bool} (h : k ≤ n) : mw (rtl (List.replicate n true ++ v) k) = cR (-k) (mw (List.replicate n true ++ v)) := by
  have e : List.replicate n true = List.replicate k true ++ List.replicate (n - k) true := by
    rw [List.replicate_append_replicate]; congr 1; omega
  have r := rtl_app (List.replicate k true) (List.replicate (n - k) true ++ v)
  rw [rep_len] at r
  rw [e, List.append_assoc, r, tn_t]
theorem rt_rep_f {n k : Nat} {v : List Bool} (h : k ≤ n) : mw (rtl (List.replicate n false ++ v) k) = cL (-k) (mw (List.replicate n false ++ v)) := by
  have e : List.replicate n false = List.replicate k false ++ List.replicate (n - k) false := by
    rw [List.replicate_append_replicate]; congr 1; omega
  have r := rtl_app (List.replicate k false) (List.replicate (n - k) false ++ v)
  rw [rep_len] at r
  rw [e, List.append_assoc, r, tn_f]
theorem steps_lI {n x y : Int} {σ : Sg} (hn : sm n) (hx : sm x) (hy : sm y) (h0 : 0 < y) : rX9_stepsUpTo (lI n) (lI x) (lI y) σ = if 0 ≤ x ∧ x % y = 0 ∧ x / y ≤ n then lI (x / y) else -1 := by
  unfold rX9_stepsUpTo
  rw [if_pos ((lI_0lt (sm_rg hy)).mpr h0)]
  by_cases c1 : x < 0
  · rw [if_pos ((lI_lt0 (sm_rg hx)).mpr c1), if_neg (by omega)]
  · have q : sm (x / y) := ed_sm hx (by omega) (by omega)
    have e := Int.emod_def x y
    have m1 := Int.emod_nonneg x (show y ≠ 0 by omega)
    have m2 := Int.emod_lt_of_pos x h0
    rw [if_neg (fun z => c1 ((lI_lt0 (sm_rg hx)).mp z)), lI_divp (sm_rg hx) (sm_rg hy) (by omega), lI_mul, lI_sub]
    have e2 : x - x / y * y = x % y := by rw [e, Int.mul_comm]
    rw [e2]
    have e3 : lI (x % y) = 0 ↔ x % y = 0 := lI_eq0 (by unfold sm at hy; unfold rg; omega)
    have e4 := lI_lt (sm_rg hn) (sm_rg q)
    by_cases c2 : x % y = 0
    · rw [if_pos (e3.mpr c2)]
      by_cases c3 : n < x / y
      · rw [if_pos (e4.mpr c3), if_neg (by omega)]
      · rw [if_neg (fun z => c3 (e4.mp z)), if_pos (by omega)]
    · rw [if_neg (fun z => c2 (e3.mp z)), if_neg (by omega)]
theorem cR_eq {A B : Mx} {k : Int} (hA : mdt A = 1) (hB : mdt B = 1) (ht : mtr B = mtr A) (hc : B.2.2.1 = A.2.2.1) (hd : B.2.2.2 - A.2.2.2 = k * A.2.2.1) (h0 : 0 < A.2.2.1) : cR (-k) A = B := by
  obtain ⟨a, b, c, d⟩ := A
  obtain ⟨a', b', c', d'⟩ := B
  unfold mdt at hA hB
  unfold mtr at ht
  simp only [cR] at *
  subst hc
  have e1 : -k * c' = -(k * c') := Int.neg_mul _ _
  have ea : a' = a - k * c' := by omega
  have ed : d' = d + k * c' := by omega
  refine mx_ext (by simp only; omega) ?_ rfl (by simp only; omega)
  simp only
  have : c' * (b + (-k * (d - a) - -k * -k * c')) = c' * b' := by
    subst ea ed
    grind
  exact Int.eq_of_mul_eq_mul_left (by omega) this
theorem cL_eq {A B : Mx} {k : Int} (hA : mdt A = 1) (hB : mdt B = 1) (ht : mtr B = mtr A) (hc : B.2.1 = A.2.1) (hd : B.1 - A.1 = k * A.2.1) (h0 : 0 < A.2.1) : cL (-k) A = B := by
  obtain ⟨a, b, c, d⟩ := A
  obtain ⟨a', b', c', d'⟩ := B
  unfold mdt at hA hB
  unfold mtr at ht
  simp only [cL] at *
  subst hc
  have e1 : -k * b' = -(k * b') := Int.neg_mul _ _
  have ea : a' = a + k * b' := by omega
  have ed : d' = d - k * b' := by omega
  refine mx_ext (by simp only; omega) rfl ?_ (by simp only; omega)
  simp only
  have : b' * (c + (-k * (a - d) - -k * -k * b')) = b' * c' := by
    subst ea ed
    grind
  exact Int.eq_of_mul_eq_mul_left (by omega) this
theorem lI_ne1 {k : Nat} (h : k < 1000000000) : lI (k : Int) ≠ -1 := fun z => by
  have z' : lI (k : Int) = lI (-1) := z.trans rfl
  have := (lI_eq (x := (k : Int)) (y := -1) (by unfold rg; omega) (by unfold rg; omega)).mp z'
  omega
/-- the turning within the first run -/
theorem tif_ok {io : Nat} {σ : Sg} {B : Mx} {n : Nat} {x : Bool} {v : List Bool} (ha : At σ 64 (mw (List.replicate n x ++ v))) (hb : At σ io B) (hB : okM B) (hw : true ∈ List.replicate n x ++ v ∧ false ∈ List.replicate n x ++ v) (hbig : big (mw (List.replicate n x ++ v))) (hn : 1 ≤ n) (hv : v.head? ≠ some x) : (∀ k, k ≤ n → mw (rtl (List.replicate n x ++ v) k) = B → rX9_turnsInFirstRun 63 64 io σ = lI (k : Int)) ∧ ((∀ k, k ≤ n → mw (rtl (List.replicate n x ++ v) k) ≠ B) → rX9_turnsInFirstRun 63 64 io σ = -1) := by
  obtain ⟨f1, f2⟩ := at_fr (k := 63) ha hbig hn hv
  have hd := mdt_w (List.replicate n x ++ v)
  have nn := mw_nn (List.replicate n x ++ v)
  have hc := mw_false hw.2
  have hbb := mw_true hw.1
  have bb := bdM_big hB.2
  have nsm : sm (n : Int) := by
    have q := at_fr (k := 63) ha hbig hn hv
    cases x
    · obtain ⟨g1, g2, g3⟩ := fr_f (n := n) hv
      rw [← g1]; exact ed_sm hbig.2.2.1 (by omega) g2
    · obtain ⟨g1, g2, g3⟩ := fr_t (n := n) hv
      rw [← g1]; exact ed_sm hbig.2.1 (by omega) g2
  have rA : rg (mtr (mw (List.replicate n x ++ v))) := by
    have := hbig; unfold big sm at this; unfold rg mtr; omega
  have rB : rg (mtr B) := by
    have := bb; unfold big sm at this; unfold rg mtr; omega
  have key : rX9_turnsInFirstRun 63 64 io σ = (if mtr B = mtr (mw (List.replicate n x ++ v)) then (if x = true then (if B.2.2.1 = (mw (List.replicate n x ++ v)).2.2.1 then rX9_stepsUpTo (lI n) (lI (B.2.2.2 - (mw (List.replicate n x ++ v)).2.2.2)) (lI (mw (List.replicate n x ++ v)).2.2.1) σ else -1) else (if B.2.1 = (mw (List.replicate n x ++ v)).2.1 then rX9_stepsUpTo (lI n) (lI (B.1 - (mw (List.replicate n x ++ v)).1)) (lI (mw (List.replicate n x ++ v)).2.1) σ else -1)) else -1) := by
    unfold rX9_turnsInFirstRun
    rw [at_tr ha, at_tr hb]
    have et := lI_eq rB rA
    obtain ⟨a1, a2, a3, a4⟩ := ha
    obtain ⟨b1, b2, b3, b4⟩ := hb
    rw [f1, a1, a2, a3, a4, b1, b2, b3, b4, lI_sub, lI_sub]
    have ec := lI_eq (sm_rg bb.2.2.1) (sm_rg hbig.2.2.1)
    have eb := lI_eq (sm_rg bb.2.1) (sm_rg hbig.2.1)
    by_cases c1 : mtr B = mtr (mw (List.replicate n x ++ v))
    · rw [if_pos (et.mpr c1), if_pos c1]
      cases x
      · rw [if_neg (show ¬ (false = true) by decide), if_neg (show ¬ (false = true) by decide), f2]
        by_cases c2 : B.2.1 = (mw (List.replicate n false ++ v)).2.1
        · rw [if_pos (eb.mpr c2), if_pos c2]
        · rw [if_neg (fun z => c2 (eb.mp z)), if_neg c2]
      · rw [if_pos rfl, if_pos rfl, f2]
        by_cases c2 : B.2.2.1 = (mw (List.replicate n true ++ v)).2.2.1
        · rw [if_pos (ec.mpr c2), if_pos c2]
        · rw [if_neg (fun z => c2 (ec.mp z)), if_neg c2]
    · rw [if_neg (fun z => c1 (et.mp z)), if_neg c1]
  rw [key]
  clear key
  cases x with
  | true =>
    refine ⟨fun k hk e => ?_, fun no => ?_⟩
    · rw [rt_rep_t hk] at e
      generalize mw (List.replicate n true ++ v) = A at *
      have e1 : mtr B = mtr A := by rw [← e]; exact mtr_cR _ _
      have e2 : B.2.2.1 = A.2.2.1 := by rw [← e]; rfl
      have e3 : B.2.2.2 - A.2.2.2 = k * A.2.2.1 := by
        have : B.2.2.2 = A.2.2.2 - -(k : Int) * A.2.2.1 := by rw [← e]; rfl
        rw [this]; grind
      have k0 : 0 ≤ (k : Int) * A.2.2.1 := Int.mul_nonneg (by omega) (by omega)
      have hsm : sm ((k : Int) * A.2.2.1) := by rw [← e3]; have b4 := bb.2.2.2; have b4' := hB.2; have a4 := hbig.2.2.2; unfold bdM at b4'; unfold sm at *; omega
      rw [if_pos e1, if_pos rfl, if_pos e2, e3, steps_lI nsm hsm hbig.2.2.1 (by omega), Int.mul_ediv_cancel _ (by omega), if_pos ⟨k0, Int.mul_emod_left _ _, by omega⟩]
    · by_cases c1 : mtr B = mtr (mw (List.replicate n true ++ v))
      · by_cases c2 : B.2.2.1 = (mw (List.replicate n true ++ v)).2.2.1
        · rw [if_pos c1, if_pos rfl, if_pos c2]
          have hsm : sm (B.2.2.2 - (mw (List.replicate n true ++ v)).2.2.2) := by
            have b4' := hB.2; have a4 := mw_nn (List.replicate n true ++ v); unfold bdM at b4'; unfold mtr at c1; unfold sm; omega
          rw [steps_lI nsm hsm hbig.2.2.1 (by omega), if_neg]
          intro ⟨g1, g2, g3⟩
          have q0 := Int.ediv_nonneg g1 (show 0 ≤ (mw (List.replicate n true ++ v)).2.2.1 by omega)
          have em := Int.mul_ediv_add_emod (B.2.2.2 - (mw (List.replicate n true ++ v)).2.2.2) (mw (List.replicate n true ++ v)).2.2.1
          rw [g2, Int.add_zero] at em
          generalize hK : (B.2.2.2 - (mw (List.replicate n true ++ v)).2.2.2) / (mw (List.replicate n true ++ v)).2.2.1 = K at *
          refine no K.toNat (by omega) ?_
          rw [rt_rep_t (by omega), show ((K.toNat : Nat) : Int) = K by omega]
          exact cR_eq hd hB.1 c1 c2 (by rw [← em, Int.mul_comm]) (by omega)
        · rw [if_pos c1, if_pos rfl, if_neg c2]
      · rw [if_neg c1]
  | false =>
    refine ⟨fun k hk e => ?_, fun no => ?_⟩
    · rw [rt_rep_f hk] at e
      generalize mw (List.replicate n false ++ v) = A at *
      have e1 : mtr B = mtr A := by rw [← e]; exact (cj_cL _ _).tr.symm
      have e2 : B.2.1 = A.2.1 := by rw [← e]; rfl
      have e3 : B.1 - A.1 = k * A.2.1 := by
        have : B.1 = A.1 - -(k : Int) * A.2.1 := by rw [← e]; rfl
        rw [this]; grind
      have k0 : 0 ≤ (k : Int) * A.2.1 := Int.mul_nonneg (by omega) (by omega)
      have hsm : sm ((k : Int) * A.2.1) := by rw [← e3]; have b4' := hB.2; have a4 := hbig.1; unfold bdM at b4'; unfold mtr at e1; unfold sm at *; omega
      rw [if_pos e1, if_neg (by decide), if_pos e2, e3, steps_lI nsm hsm hbig.2.1 (by omega), Int.mul_ediv_cancel _ (by omega), if_pos ⟨k0, Int.mul_emod_left _ _, by omega⟩]
    · by_cases c1 : mtr B = mtr (mw (List.replicate n false ++ v))
      · by_cases c2 : B.2.1 = (mw (List.replicate n false ++ v)).2.1
        · rw [if_pos c1, if_neg (by decide), if_pos c2]
          have hsm : sm (B.1 - (mw (List.replicate n false ++ v)).1) := by
            have b4' := hB.2; have a4 := mw_nn (List.replicate n false ++ v); unfold bdM at b4'; unfold mtr at c1; unfold sm; omega
          rw [steps_lI nsm hsm hbig.2.1 (by omega), if_neg]
          intro ⟨g1, g2, g3⟩
          have q0 := Int.ediv_nonneg g1 (show 0 ≤ (mw (List.replicate n false ++ v)).2.1 by omega)
          have em := Int.mul_ediv_add_emod (B.1 - (mw (List.replicate n false ++ v)).1) (mw (List.replicate n false ++ v)).2.1
          rw [g2, Int.add_zero] at em
          generalize hK : (B.1 - (mw (List.replicate n false ++ v)).1) / (mw (List.replicate n false ++ v)).2.1 = K at *
          refine no K.toNat (by omega) ?_
          rw [rt_rep_f (by omega), show ((K.toNat : Nat) : Int) = K by omega]
          exact cL_eq hd hB.1 c1 c2 (by rw [← em, Int.mul_comm]) (by omega)
        · rw [if_pos c1, if_neg (by decide), if_neg c2]
      · rw [if_neg c1]
theorem mem_rtl {w : List Bool} {k : Nat} {y : Bool} (h : y ∈ w) : y ∈ rtl w k := by
  unfold rtl
  have : y ∈ w.take k ++ w.drop k := by rw [List.take_append_drop]; exact h
  rw [List.mem_append] at *
  exact this.symm
theorem tr_rtl (w : List Bool) (k : Nat) : mtr (mw (rtl w k)) = mtr (mw w) := by
  obtain ⟨C, h⟩ := rtl_cj (w := w) (i := k)
  exact h.tr.symm
/-- no turning: none is found -/
theorem bg_no {io : Nat} (hio : io ≠ 64) {B : Mx} (hB : okM B) : ∀ (m : Nat) (t : Int64) (σ : Sg) (w : List Bool), At σ 64 (mw w) → At σ io B → true ∈ w ∧ false ∈ w → mtr (mw w) ≤ 2000000 → (∀ k, k ≤ w.length → mw (rtl w k) ≠ B) → (bgF io m t σ).1 = -1
  | 0, t, σ, w, _, _, _, _, _ => rfl
  | m + 1, t, σ, w, ha, hb, hw, ht, no => by
    have w0 : w ≠ [] := fun z => by rw [z] at hw; simp at hw
    obtain ⟨x, n, v, e, hn, hv⟩ := run_ex w w0
    subst e
    have hbig := word_big hw ht
    have ln : n ≤ (List.replicate n x ++ v).length := by rw [List.length_append, rep_len]; omega
    have q := (tif_ok ha hb hB hw hbig hn hv).2 (fun k hk => no k (by omega))
    rw [bgF, if_pos q]
    obtain ⟨_, a2⟩ := at_turn (k := 63) ha hbig hn hv
    have er : v ++ List.replicate n x = rtl (List.replicate n x ++ v) n := by
      have := rtl_app (List.replicate n x) v
      rw [rep_len] at this; exact this.symm
    rw [er] at a2
    refine bg_no hio hB m _ _ (rtl (List.replicate n x ++ v) n) a2 (at_fr2 (turn_2 hio) hb) ⟨mem_rtl hw.1, mem_rtl hw.2⟩ (by rw [tr_rtl]; exact ht) (fun k hk => ?_)
    rw [rtl_len] at hk
    rw [rtl_rtl ln hk (by omega)]
    exact no _ (Nat.le_of_lt (Nat.mod_lt _ (by omega)))
/-- the least turning is found -/
theorem bg_yes {io : Nat} (hio : io ≠ 64) {B : Mx} (hB : okM B) {k0 : Nat} : ∀ (ds : List Nat) (y : Bool) (z : List Bool) (m : Nat) (σ : Sg), rpos ds → ds.length ≤ m → At σ 64 (mw (ex y ds ++ z)) → At σ io B → (true ∈ ex y ds ++ z ∧ false ∈ ex y ds ++ z) → mtr (mw (ex y ds ++ z)) ≤ 2000000 → z.length ≤ k0 → k0 < z.length + (ex y ds).length → k0 < 1000000000 → mw (rtl (z ++ ex y ds) k0) = B → (∀ j, j < k0 → mw (rtl (z ++ ex y ds) j) ≠ B) → (bgF io m (lI (z.length : Nat)) σ).1 = nI k0
  | [], y, z, m, σ, _, _, _, _, _, _, h1, h2, _, _, _ => by rw [ex, List.length_nil] at h2; omega
  | d0 :: ds, y, z, m, σ, hp, hm, ha, hb, hw, ht, h1, h2, h3, hk, hno => by
    obtain ⟨m, rfl⟩ : ∃ j, m = j + 1 := ⟨m - 1, by simp only [List.length_cons] at hm; omega⟩
    obtain ⟨hd0, hp'⟩ := rpos_c hp
    have hbig := word_big hw ht
    have w0 : ex y (d0 :: ds) ++ z ≠ [] := fun q => ex_ne hp (by simp) (List.append_eq_nil_iff.mp q).1
    obtain ⟨x, n, v, e, hn, hv⟩ := run_ex _ w0
    have hx : x = y := by
      have a : (ex y (d0 :: ds) ++ z).head? = some x := by rw [e]; exact rep_hd hn x v
      rw [ex, List.append_assoc, rep_hd hd0] at a
      exact (Option.some.inj a).symm
    subst hx
    -- the first run holds at least d0 letters, just these if more runs follow
    have hnd : d0 ≤ n ∧ (ds ≠ [] → n = d0 ∧ v = ex (!x) ds ++ z) := by
      by_cases c : ds = []
      · refine ⟨?_, fun q => absurd c q⟩
        rw [c, ex, ex, List.append_nil] at e
        by_cases q : d0 ≤ n
        · exact q
        · exfalso
          have e2 : List.replicate d0 x = List.replicate n x ++ List.replicate (d0 - n) x := by
            rw [List.replicate_append_replicate]; congr 1; omega
          rw [e2, List.append_assoc] at e
          have := List.append_cancel_left e
          rw [← this, rep_hd (by omega)] at hv
          exact hv rfl
      · have hv' : (ex (!x) ds ++ z).head? ≠ some x := by
          have := ex_hd1 (x := !x) hp' c
          cases hq : ex (!x) ds with
          | nil => rw [hq] at this; simp at this
          | cons a b =>
            rw [hq] at this
            simp only [List.head?_cons] at this
            rw [List.cons_append, List.head?_cons, this]
            cases x <;> simp
        rw [ex, List.append_assoc] at e
        obtain ⟨g1, g2⟩ := fr_uniq _ _ _ _ hv' hv e
        exact ⟨by omega, fun _ => ⟨g1.symm, g2.symm⟩⟩
    -- turnings of the whole, seen from here
    have rel : ∀ j, j ≤ (ex x (d0 :: ds)).length → rtl (z ++ ex x (d0 :: ds)) (z.length + j) = rtl (ex x (d0 :: ds) ++ z) j := by
      intro j hj
      have r1 := rtl_app z (ex x (d0 :: ds))
      rw [← r1]
      by_cases cz : z.length + j = (z ++ ex x (d0 :: ds)).length
      · rw [cz, rtl_n, r1, show j = (ex x (d0 :: ds)).length by rw [List.length_append] at cz; omega]
        have := rtl_app (ex x (d0 :: ds)) z
        exact this.symm
      · rw [List.length_append] at cz
        rw [rtl_rtl (by rw [List.length_append]; omega) (by rw [List.length_append]; omega) (by rw [List.length_append]; omega), Nat.mod_eq_of_lt (by rw [List.length_append]; omega)]
    have ha' := ha
    rw [e] at ha'
    have hw' := hw
    rw [e] at hw'
    have hbig' := hbig
    rw [e] at hbig'
    obtain ⟨t1, t2⟩ := tif_ok ha' hb hB hw' hbig' hn hv
    rw [← e] at t1 t2
    rw [bgF]
    by_cases c : k0 ≤ z.length + n
    · have hk2 : mw (rtl (ex x (d0 :: ds) ++ z) (k0 - z.length)) = B := by
        rw [← rel _ (by omega), show z.length + (k0 - z.length) = k0 by omega]; exact hk
      have q := t1 (k0 - z.length) (by omega) hk2
      rw [q, if_neg (lI_ne1 (by omega)), lI_add]
      show (lI _).toInt32 = _
      rw [show ((z.length : Nat) : Int) + ((k0 - z.length : Nat) : Int) = ((k0 : Nat) : Int) by omega, lI_nI]
    · have cds : ds ≠ [] := fun q => by
        rw [q, ex, ex, List.append_nil, rep_len] at h2
        omega
      obtain ⟨en, ev⟩ := hnd.2 cds
      have lex : (ex x (d0 :: ds)).length = d0 + (ex (!x) ds).length := by rw [ex, List.length_append, rep_len]
      have q := t2 (fun k hk' => by
        rw [← rel k (by omega)]
        exact hno _ (by omega))
      obtain ⟨r1, a2⟩ := at_turn (k := 63) ha' hbig' hn hv
      rw [if_pos q, r1, lI_add]
      have hz : ((z.length : Nat) : Int) + (n : Int) = (((z ++ List.replicate n x).length : Nat) : Int) := by rw [List.length_append, rep_len]; omega
      rw [hz]
      rw [ev, List.append_assoc] at a2
      have ew : (z ++ List.replicate n x) ++ ex (!x) ds = z ++ ex x (d0 :: ds) := by rw [List.append_assoc, ex, en]
      have mem : ∀ b, b ∈ ex x (d0 :: ds) ++ z → b ∈ ex (!x) ds ++ (z ++ List.replicate n x) := fun b hb => by
        rw [ex, ← en] at hb
        simp only [List.mem_append] at hb ⊢
        rcases hb with (hb | hb) | hb
        · exact Or.inr (Or.inr hb)
        · exact Or.inl hb
        · exact Or.inr (Or.inl hb)
      have etr : mtr (mw (ex (!x) ds ++ (z ++ List.replicate n x))) ≤ 2000000 := by
        have c1 := (cj_tw (List.replicate n x) (ex (!x) ds ++ z)).tr
        rw [List.append_assoc] at c1
        rw [← c1]
        rw [e, ev] at ht
        exact ht
      refine bg_yes hio hB ds (!x) (z ++ List.replicate n x) m _ hp' (by simp only [List.length_cons] at hm; omega) a2 (at_fr2 (turn_2 hio) hb) ⟨mem _ hw.1, mem _ hw.2⟩ etr (by rw [List.length_append, rep_len]; omega) (by rw [List.length_append, rep_len]; omega) h3 (by rw [ew]; exact hk) (fun j hj => by rw [ew]; exact hno j hj)
/-- the answer -/
noncomputable def bgA (A B : Mx) : Int32 := @dite _ (knd A = 3 ∧ knd B = 3 ∧ mnn A ∧ mnn B ∧ ∃ k, BgP A B k ∧ ∀ j, j < k → ¬ BgP A B j) (Classical.propDecidable _) (fun h => nI (Classical.choose h.2.2.2.2)) (fun _ => -1)
theorem bgA_yes {A B : Mx} {k : Nat} (h1 : knd A = 3) (h2 : knd B = 3) (h3 : mnn A) (h4 : mnn B) (h5 : BgP A B k) (h6 : ∀ j, j < k → ¬ BgP A B j) : bgA A B = nI k := by
  unfold bgA
  rw [dif_pos ⟨h1, h2, h3, h4, k, h5, h6⟩]
  obtain ⟨g1, g2⟩ := Classical.choose_spec (⟨k, h5, h6⟩ : ∃ k, BgP A B k ∧ ∀ j, j < k → ¬ BgP A B j)
  generalize Classical.choose (⟨k, h5, h6⟩ : ∃ k, BgP A B k ∧ ∀ j, j < k → ¬ BgP A B j) = c at *
  have : c = k := by
    by_cases q1 : c < k
    · exact absurd g1 (h6 c q1)
    · by_cases q2 : k < c
      · exact absurd h5 (g2 k q2)
      · omega
  rw [this]
theorem bgA_no {A B : Mx} (h : ¬ (knd A = 3 ∧ knd B = 3 ∧ mnn A ∧ mnn B ∧ ∃ k, BgP A B k)) : bgA A B = -1 := by
  unfold bgA
  rw [dif_neg]
  intro ⟨h1, h2, h3, h4, k, h5, _⟩
  exact h ⟨h1, h2, h3, h4, k, h5⟩
theorem bgp_w {A B : Mx} {w : List Bool} (h : mw w = A) {k : Nat} : BgP A B k ↔ k ≤ w.length ∧ mw (rtl w k) = B := by
  constructor
  · intro ⟨u, e1, e2, e3⟩
    have : u = w := mw_inj (e1.trans h.symm)
    subst this
    exact ⟨e2, e3⟩
  · intro ⟨e2, e3⟩
    exact ⟨w, h, e2, e3⟩
theorem str_tr {A : Mx} (hA : okM A) (h : knd A = 3) (hn : mnn A) : 3 ≤ mtr A ∧ mtr A ≤ 2000000 ∧ psq A = A := by
  have h3 := knd_3.mp h
  have hb := hA.2
  unfold bdM at hb
  unfold mnn at hn
  have : ¬ mtr A < 0 := by unfold mtr; omega
  refine ⟨by omega, by unfold mtr; omega, by unfold psq; rw [if_neg this]⟩
theorem str_word {A : Mx} (hA : okM A) (h : knd A = 3) (hn : mnn A) : ∃ w, mw w = A ∧ true ∈ w ∧ false ∈ w := by
  obtain ⟨t1, t2, _⟩ := str_tr hA h hn
  obtain ⟨nb, nc⟩ := bc_ne hA.1 t1
  unfold mnn at hn
  exact lk_word hA.1 t1 (by omega) (by omega)
/-- the least one -/
theorem bgp_least {A B : Mx} {w : List Bool} (e : mw w = A) (h0 : 0 < w.length) (h : ∃ k, BgP A B k) : ∃ k, BgP A B k ∧ k < w.length ∧ ∀ j, j < k → ¬ BgP A B j := by
  obtain ⟨k, hk⟩ := h
  obtain ⟨m, m1, m2, m3⟩ := least_ex (P := BgP A B) k hk
  refine ⟨m, m1, ?_, m3⟩
  obtain ⟨l1, l2⟩ := (bgp_w e).mp m1
  by_cases c : m = w.length
  · exfalso
    rw [c, rtl_n] at l2
    exact m3 0 (by omega) ((bgp_w e).mpr ⟨by omega, by rw [rtl_0]; exact l2⟩)
  · omega
/-- how many runs a word has -/
theorem runs_bd {w : List Bool} {x : Bool} {rs : List Nat} (mm' : true ∈ w ∧ false ∈ w) (ew : w = ex x rs) (hp : rpos rs) (hr0 : rs ≠ []) (t2 : mtr (mw w) ≤ 2000000) : rs.length ≤ 41 ∧ rs.sum ≤ 80000000 := by
  have h2 := word_mem_len mm' ew
  rw [ew] at t2
  have hx : ∃ ah ws, Mrg x rs ah ws := by
    by_cases ho : rs.length % 2 = 1
    · obtain ⟨r0, t1, e1⟩ : ∃ r0 t1, rs = r0 :: t1 := by
        cases rs with
        | nil => exact absurd rfl hr0
        | cons a b => exact ⟨a, b, rfl⟩
      cases x with
      | true =>
        obtain ⟨r1, t2, e2⟩ : ∃ r1 t2, t1 = r1 :: t2 := by
          cases t1 with
          | nil => rw [e1] at h2; simp at h2
          | cons a b => exact ⟨a, b, rfl⟩
        have t20 : t2 ≠ [] := fun z => by rw [e1, e2, z] at ho; simp at ho
        obtain ⟨md, rl, e3⟩ := snoc_ex t20
        rw [e1, e2, e3] at hp ho ⊢
        exact ⟨_, _, mrg_3 hp (by simp at ho; omega)⟩
      | false =>
        have t10 : t1 ≠ [] := fun z => by rw [e1, z] at h2; simp at h2
        obtain ⟨md, rl, e3⟩ := snoc_ex t10
        rw [e1, e3] at hp ho ⊢
        exact ⟨_, _, mrg_4 hp (by simp at ho; omega)⟩
    · cases x with
      | true => exact ⟨_, _, mrg_1 hp hr0 (by omega)⟩
      | false =>
        obtain ⟨r0, t1, e1⟩ : ∃ r0 t1, rs = r0 :: t1 := by
          cases rs with
          | nil => exact absurd rfl hr0
          | cons a b => exact ⟨a, b, rfl⟩
        rw [e1] at hp ho ⊢
        exact ⟨_, _, mrg_2 hp (by omega)⟩
  obtain ⟨ah, ws, hm⟩ := hx
  obtain ⟨_, l1, l2⟩ := hm.wh cjb.rfl' t2
  refine ⟨by have := hm.2.2.2.2.2.1; omega, ?_⟩
  have s1 := sum_le ws l2
  have e1 := congrArg List.length hm.2.2.2.2.1
  rw [rtl_len, ex_len, ex_len] at e1
  omega
/-- the class's search -/
theorem bg_class {io : Nat} (hio : io ≠ 64) {σ : Sg} {A B : Mx} (hA : okM A) (hB : okM B) (ka : knd A = 3) (kb : knd B = 3) (na : mnn A) (nb : mnn B) (a1 : At σ 64 A) (a2 : At σ io B) : (bgF io 41 0 σ).1 = bgA A B := by
  obtain ⟨w, e, mt, mf⟩ := str_word hA ka na
  obtain ⟨t1, t2, _⟩ := str_tr hA ka na
  have w0 : w ≠ [] := fun z => by rw [z] at mt; simp at mt
  have wl : 0 < w.length := by
    cases w with
    | nil => exact absurd rfl w0
    | cons a b => simp
  rw [← e] at a1 t2
  by_cases c : ∃ k, BgP A B k
  · obtain ⟨k, k1, k2, k3⟩ := bgp_least e wl c
    rw [bgA_yes ka kb na nb k1 k3]
    obtain ⟨x, rs, ew, hp, hr0⟩ := ex_all w.length w (Nat.le_refl _) w0
    obtain ⟨rl, rsum⟩ := runs_bd ⟨mt, mf⟩ ew hp hr0 t2
    have el : w.length = rs.sum := by rw [ew, ex_len]
    have := bg_yes hio hB (k0 := k) rs x [] 41 σ hp rl (by rw [List.append_nil, ← ew]; exact a1) a2 (by rw [List.append_nil, ← ew]; exact ⟨mt, mf⟩) (by rw [List.append_nil, ← ew]; exact t2) (by simp) (by rw [← ew]; simp; exact k2) (by omega) (by rw [List.nil_append, ← ew]; exact ((bgp_w e).mp k1).2) (fun j hj q => by
      rw [List.nil_append, ← ew] at q
      exact k3 j hj ((bgp_w e).mpr ⟨by omega, q⟩))
    exact this
  · rw [bgA_no (fun z => c z.2.2.2.2)]
    exact bg_no hio hB 41 0 σ w a1 a2 ⟨mt, mf⟩ t2 (fun k hk q => c ⟨k, (bgp_w e).mpr ⟨hk, q⟩⟩)
