/-! The reference's begins; who is alike. -/
theorem fx1 {E : List Bool} {S x y : Nat} (h0 : 0 < E.length) (key : ∀ j, j ≤ E.length → (rtl E j = E ↔ S ∣ j)) (hx : x ≤ E.length) (hxy : y ≤ x) : rtl E x = rtl E y ↔ S ∣ x - y := by
  have e : rtl E x = rtl (rtl E (x - y)) y := by
    rw [rtl_rtl (by omega) (by omega) h0, show x - y + y = x by omega]
    by_cases c : x = E.length
    · rw [c, Nat.mod_self, rtl_n, rtl_0]
    · rw [Nat.mod_eq_of_lt (by omega)]
  rw [e, ← key (x - y) (by omega)]
  constructor
  · intro h
    exact rtl_back (by rw [rtl_len]) (by rw [rtl_len]; omega) h
  · intro h; rw [h]
theorem fx2 {E : List Bool} {S x y : Nat} (h0 : 0 < E.length) (key : ∀ j, j ≤ E.length → (rtl E j = E ↔ S ∣ j)) (hx : x ≤ E.length) (hy : y ≤ E.length) : rtl E x = rtl E y ↔ (S : Int) ∣ (x : Int) - y := by
  by_cases c : y ≤ x
  · rw [fx1 h0 key hx c, ← Int.natCast_dvd_natCast, Int.ofNat_sub c]
  · have := fx1 h0 key hy (show x ≤ y by omega)
    rw [← Int.natCast_dvd_natCast, Int.ofNat_sub (by omega)] at this
    rw [show (x : Int) - y = -((y : Int) - x) by omega, Int.dvd_neg, ← this]
    exact ⟨fun h => h.symm, fun h => h.symm⟩
theorem bg_mod {A B : Mx} {wa wb : List Bool} {E : List Bool} {S ka kb : Nat} (ea : mw wa = A) (eb : mw wb = B) (la : 0 < wa.length) (lb : 0 < wb.length) (ra : rtl wa (ka % wa.length) = E) (rb : rtl wb (kb % wb.length) = E) (key : ∀ j, j ≤ E.length → (rtl E j = E ↔ S ∣ j)) (S0 : 0 < S) : BgP A B (((-(kb : Int)) % S - (-(ka : Int)) % S + S) % S).toNat ∧ ∀ j, j < (((-(kb : Int)) % S - (-(ka : Int)) % S + S) % S).toNat → ¬ BgP A B j := by
  have LA : E.length = wa.length := by rw [← ra, rtl_len]
  have LB : E.length = wb.length := by rw [← rb, rtl_len]
  have SL : S ∣ E.length := (key E.length (Nat.le_refl _)).mp (rtl_n E)
  have Sle := Nat.le_of_dvd (by omega) SL
  have qa := Nat.mod_lt ka la
  have qb := Nat.mod_lt kb lb
  have xa : rtl E (E.length - ka % wa.length) = wa := by
    have e := rtl_rtl (w := wa) (t := ka % wa.length) (i := E.length - ka % wa.length) (by omega) (by omega) la
    rw [ra, show ka % wa.length + (E.length - ka % wa.length) = wa.length by omega, Nat.mod_self, rtl_0] at e
    exact e
  have xb : rtl E (E.length - kb % wb.length) = wb := by
    have e := rtl_rtl (w := wb) (t := kb % wb.length) (i := E.length - kb % wb.length) (by omega) (by omega) lb
    rw [rb, show kb % wb.length + (E.length - kb % wb.length) = wb.length by omega, Nat.mod_self, rtl_0] at e
    exact e
  -- a turning of wa is wb just when it is right by S
  have iff : ∀ j, j ≤ wa.length → (rtl wa j = wb ↔ (S : Int) ∣ (j : Int) - ((ka : Int) - kb)) := by
    intro j hj
    have e1 : rtl wa j = rtl E ((E.length - ka % wa.length + j) % E.length) := by
      rw [← rtl_rtl (by omega) (by omega) (by omega), xa]
    have hm := Nat.mod_lt (E.length - ka % wa.length + j) (show 0 < E.length by omega)
    rw [e1]
    have e3 : (rtl E ((E.length - ka % wa.length + j) % E.length) = wb) = (rtl E ((E.length - ka % wa.length + j) % E.length) = rtl E (E.length - kb % wb.length)) := by rw [xb]
    rw [e3, fx2 (by omega) key (by omega) (by omega)]
    -- all differences are by multiples of the length
    have SL' : (S : Int) ∣ (E.length : Int) := Int.natCast_dvd_natCast.mpr SL
    have d1 := Nat.div_add_mod (E.length - ka % wa.length + j) E.length
    have d2 := Nat.div_add_mod ka wa.length
    have d3 := Nat.div_add_mod kb wb.length
    rw [← LA] at d1 d2 qa ⊢
    rw [← LB] at d3 qb ⊢
    generalize hL : E.length = L at *
    generalize ha : ka % L = a at *
    generalize hb : kb % L = b at *
    generalize hq1 : (L - a + j) / L = u at *
    generalize hq2 : ka / L = v at *
    generalize hq3 : kb / L = z at *
    generalize hr : (L - a + j) % L = r at *
    have c1 : ((L * u + r : Nat) : Int) = ((L - a + j : Nat) : Int) := by rw [d1]
    have c2 : ((L * v + a : Nat) : Int) = (ka : Int) := by rw [d2]
    have c3 : ((L * z + b : Nat) : Int) = (kb : Int) := by rw [d3]
    rw [Int.natCast_add, Int.natCast_mul] at c1 c2 c3
    rw [Int.ofNat_sub (show b ≤ L by omega)]
    have c4 : ((L - a + j : Nat) : Int) = (L : Int) - a + j := by omega
    rw [c4] at c1
    have eqn : (r : Int) - ((L : Int) - b) = ((j : Int) - ((ka : Int) - kb)) + (L : Int) * ((v : Int) - z - u) := by
      rw [← c2, ← c3]
      grind
    rw [eqn]
    have dm : (S : Int) ∣ (L : Int) * ((v : Int) - z - u) := Int.dvd_trans SL' (Int.dvd_mul_right _ _)
    constructor
    · intro h
      have := Int.dvd_sub h dm
      rwa [Int.add_sub_cancel] at this
    · intro h
      exact Int.dvd_add h dm
  have hS : (0 : Int) < S := by omega
  generalize hd : ((-(kb : Int)) % S - (-(ka : Int)) % S + S) % S = d at *
  have d0 : 0 ≤ d := by rw [← hd]; exact Int.emod_nonneg _ (by omega)
  have d1 : d < S := by rw [← hd]; exact Int.emod_lt_of_pos _ hS
  have dd : (S : Int) ∣ d - ((ka : Int) - kb) := by
    have m1 := Int.mul_ediv_add_emod ((-(kb : Int)) % S - (-(ka : Int)) % S + S) S
    have m2 := Int.mul_ediv_add_emod (-(kb : Int)) S
    have m3 := Int.mul_ediv_add_emod (-(ka : Int)) S
    rw [hd] at m1
    generalize ((-(kb : Int)) % S - (-(ka : Int)) % S + S) / S = u at *
    generalize (-(kb : Int)) / S = v at *
    generalize (-(ka : Int)) / S = z at *
    generalize (-(kb : Int)) % S = p at *
    generalize (-(ka : Int)) % S = q at *
    refine ⟨z - v + 1 - u, ?_⟩
    grind
  have hj : ∀ j : Nat, BgP A B j ↔ j ≤ wa.length ∧ (S : Int) ∣ (j : Int) - ((ka : Int) - kb) := by
    intro j
    rw [bgp_w ea]
    constructor
    · intro ⟨h1, h2⟩
      refine ⟨h1, (iff j h1).mp (mw_inj (h2.trans eb.symm))⟩
    · intro ⟨h1, h2⟩
      refine ⟨h1, ?_⟩
      rw [(iff j h1).mpr h2, eb]
  refine ⟨(hj _).mpr ⟨by omega, by rw [show ((d.toNat : Nat) : Int) = d by omega]; exact dd⟩, fun j hlt hp => ?_⟩
  obtain ⟨_, h2⟩ := (hj j).mp hp
  have h3 := Int.dvd_sub dd h2
  rw [show d - ((ka : Int) - kb) - ((j : Int) - ((ka : Int) - kb)) = d - j by omega] at h3
  have := Int.le_of_dvd (by omega) h3
  omega
/-- alike -/
noncomputable def alk (A B : Mx) : Bool := decide (knd A = knd B ∧ mtr A = mtr B ∧ mrk A = mrk B ∧ whl A = whl B)
theorem alk_t {A B : Mx} : alk A B = true ↔ (knd A = knd B ∧ mtr A = mtr B ∧ mrk A = mrk B ∧ whl A = whl B) := by unfold alk; exact decide_eq_true_iff
theorem bool_of {p q : Bool} (h : p = true ↔ q = true) : p = q := by
  cases p <;> cases q <;> simp_all
theorem iI_inj {x y : Int} (hx : -2147483648 ≤ x ∧ x ≤ 2147483647) (hy : -2147483648 ≤ y ∧ y ≤ 2147483647) : iI x = iI y ↔ x = y := by
  unfold iI
  constructor
  · intro h
    have := congrArg Int32.toInt h
    rwa [Int32.toInt_ofInt_of_le (by omega) (by omega), Int32.toInt_ofInt_of_le (by omega) (by omega)] at this
  · intro h; rw [h]
theorem same_go {f g : Nat → Int32} {n t u : Nat} : ∀ (m i : Nat), i + m = n → (sameF f g n t u m i = true ↔ ∀ j, i ≤ j → j < n → f ((t + j) % n) = g ((u + j) % n))
  | 0, i, h => by
    rw [sameF]
    exact ⟨fun _ j h1 h2 => by omega, fun _ => rfl⟩
  | m + 1, i, h => by
    rw [sameF]
    by_cases c : f ((t + i) % n) = g ((u + i) % n)
    · rw [if_pos c, same_go (n := n) m (i + 1) (by omega)]
      constructor
      · intro z j h1 h2
        by_cases e : j = i
        · rw [e]; exact c
        · exact z j (by omega) h2
      · intro z j h1 h2
        exact z j (by omega) h2
    · rw [if_neg c]
      exact ⟨fun z => absurd z (by decide), fun z => absurd (z i (Nat.le_refl _) (by omega)) c⟩
theorem rtl_at {w : List Nat} {t j : Nat} (ht : t ≤ w.length) (hj : j < w.length) : (rtl w t).getD j 0 = w.getD ((t + j) % w.length) 0 := by
  rw [List.getD_eq_getElem?_getD, List.getD_eq_getElem?_getD, rtl_get ht hj]
theorem sameW_ok {f g : Nat → Int32} {w1 w2 : List Nat} {t u : Nat} (h1 : Vl f w1) (h2 : Vl g w2) (b1 : sbn w1) (b2 : sbn w2) (ht : t ≤ w1.length) (hu : u ≤ w2.length) : sameW f g w1.length w2.length t u = true ↔ rtl w1 t = rtl w2 u := by
  unfold sameW
  by_cases c : w1.length = w2.length
  · rw [if_pos c, same_go _ _ (Nat.zero_add _)]
    constructor
    · intro z
      apply ext_n (n := w1.length) (rtl_len _ _) (by rw [rtl_len, c])
      intro j hj
      have m1 : (t + j) % w1.length < w1.length := Nat.mod_lt _ (by omega)
      have m2 : (u + j) % w1.length < w2.length := by rw [← c]; exact Nat.mod_lt _ (by omega)
      have := z j (Nat.zero_le _) hj
      rw [h1 _ m1, h2 _ m2] at this
      have a1 := sbn_get b1 ((t + j) % w1.length)
      have a2 := sbn_get b2 ((u + j) % w1.length)
      have e := (nI_eq (by omega) (by omega)).mp this
      rw [rtl_get ht hj, rtl_get hu (by omega), getD_of m1, ← c, getD_of m2, e]
    · intro z j _ hj
      have m1 : (t + j) % w1.length < w1.length := Nat.mod_lt _ (by omega)
      have m2 : (u + j) % w1.length < w2.length := by rw [← c]; exact Nat.mod_lt _ (by omega)
      rw [h1 _ m1, h2 _ m2]
      congr 1
      have e1 := rtl_at ht hj
      have e2 := rtl_at (w := w2) hu (show j < w2.length by omega)
      rw [← c] at e2
      rw [← e1, ← e2, z]
  · rw [if_neg c]
    refine ⟨fun z => absurd z (by decide), fun z => ?_⟩
    have := congrArg List.length z
    rw [rtl_len, rtl_len] at this
    exact absurd this c
theorem kin_tr {σ : Sg} {k s h r e w p : Nat} {A : Mx} (ha : At σ s A) : rX3_trace k s h r e w p σ = iI (mtr A) := by
  unfold rX3_trace
  rw [at_tr ha, lI_iI]
theorem tr_bd {A : Mx} (h : bdM A) : -2000000 ≤ mtr A ∧ mtr A ≤ 2000000 := by unfold bdM at h; unfold mtr; omega
theorem alk_class {σ : Sg} {k s h r e w p i s2 h2 r2 e2 w2 p2 : Nat} {A B : Mx} (hA : okM A) (hB : okM B) (x : KinOk σ k s h r A) (y : KinOk σ i s2 h2 r2 B) : rX3_isLike k s h r e w p i s2 h2 r2 e2 w2 p2 σ = alk A B := by
  obtain ⟨x1, x2, x3, ws, t, xw, xl, _, _, xb, _, xt, xc, xs, xv⟩ := x
  obtain ⟨y1, y2, y3, ws2, t2, yw, yl, _, _, yb, _, yt, yc, ys, yv⟩ := y
  apply bool_of
  rw [alk_t]
  unfold rX3_isLike cnt stt
  rw [kin_tr x1, kin_tr y1, x2, y2, x3, y3, xc, xs, yc, ys, nI_clamp (by omega), nI_clamp (by omega), nI_clamp (by rcases xt with q | q <;> omega), nI_clamp (by rcases yt with q | q <;> omega)]
  have tA := tr_bd hA.2
  have tB := tr_bd hB.2
  have et := iI_inj (x := mtr A) (y := mtr B) (by omega) (by omega)
  have ew := sameW_ok xv yv xb yb (t := t) (u := t2) (by rcases xt with q | ⟨q1, q2⟩ <;> omega) (by rcases yt with q | ⟨q1, q2⟩ <;> omega)
  rw [← xw, ← yw] at ew
  by_cases c1 : knd A = knd B
  · rw [if_pos c1]
    by_cases c2 : mrk A = mrk B
    · rw [if_pos c2]
      by_cases c3 : mtr A = mtr B
      · rw [if_pos (et.mpr c3)]
        by_cases c4 : whl A = whl B
        · rw [if_pos (ew.mpr c4)]
          exact ⟨fun _ => ⟨c1, c3, c2, c4⟩, fun _ => rfl⟩
        · rw [if_neg (fun z => c4 (ew.mp z))]
          exact ⟨fun z => absurd z (by decide), fun z => absurd z.2.2.2 c4⟩
      · rw [if_neg (fun z => c3 (et.mp z))]
        exact ⟨fun z => absurd z (by decide), fun z => absurd z.2.1 c3⟩
    · rw [if_neg c2]
      exact ⟨fun z => absurd z (by decide), fun z => absurd z.2.2.1 c2⟩
  · rw [if_neg c1]
    exact ⟨fun z => absurd z (by decide), fun z => absurd z.1 c1⟩
/-! The reference puts aside, compares. -/
def sdw (A : Mx) : Int32 := if A.2.2.1 < 0 then -1 else 1
def byA (A : Mx) : Int := if knd A = 2 then shN A else 0
def Aside (τ : Sg) (A : Mx) : Prop := τ.1 159 26 = knd A ∧ τ.2 159 27 = lI (mtr A) ∧ τ.2 159 28 = lI (byA A) ∧ τ.1 159 29 = sdw A ∧ τ.1 159 30 = nI (whl A).length ∧ Vl (τ.1 169) (whl A)
def AsideB (τ : Sg) (A : Mx) : Prop := knd A = 3 → mnn A → ∃ (w : List Bool) (k : Nat), mw w = A ∧ 0 < w.length ∧ rtl w (k % w.length) = ex true (whl A) ∧ τ.2 159 31 = lI ((-(k : Int)) % (((whl A).sum / TM (whl A) : Nat) : Int))
theorem pa_go {n : Nat} : ∀ (m i : Nat) (σ : Sg), i + m = n → (∀ j, (paF m i σ).1 169 j = if i ≤ j ∧ j < n then σ.1 166 j else σ.1 169 j) ∧ (∀ a j, a ≠ 169 → (paF m i σ).1 a j = σ.1 a j) ∧ (paF m i σ).2 = σ.2
  | 0, i, σ, h => by
    rw [paF]
    refine ⟨fun j => ?_, fun _ _ _ => rfl, rfl⟩
    rw [if_neg (by omega)]
  | m + 1, i, σ, h => by
    rw [paF]
    obtain ⟨g1, g2, g3⟩ := pa_go (n := n) m (i + 1) _ (by omega)
    refine ⟨fun j => ?_, fun a j ha => (g2 a j ha).trans (u2_k ha), g3⟩
    rw [g1]
    dsimp only
    by_cases c : j = i
    · subst c
      rw [if_neg (by omega), if_pos (by omega), u2_eq]
    · rw [u2_j c, u2_j c]
      by_cases c2 : i ≤ j ∧ j < n
      · rw [if_pos c2, if_pos (by omega)]
      · rw [if_neg c2, if_neg (by omega)]
theorem aside_ok {σ : Sg} {A : Mx} {n : Nat} (h : Knows σ A) (hb : Begs σ A) (hn : n = (whl A).length) : Aside (paF n 0 (pa0 σ)) A ∧ AsideB (paF n 0 (pa0 σ)) A := by
  obtain ⟨h1, h2, h3, h4, h5, h6, h7, h8⟩ := h
  obtain ⟨g1, g2, g3⟩ := pa_go (n := n) n 0 (pa0 σ) (by omega)
  refine ⟨⟨?_, ?_, ?_, ?_, ?_, ?_⟩, ?_⟩
  · rw [g2 _ _ (by decide)]; unfold pa0; simp [u2, h1]
  · rw [g3]; unfold pa0; simp [u2, h2]
  · rw [g3]; unfold pa0 byA; simp [u2, h3]
  · rw [g2 _ _ (by decide)]; unfold pa0 sdw; simp [u2, h4]
  · rw [g2 _ _ (by decide)]; unfold pa0; simp [u2, h5]
  · intro i hi
    rw [g1, if_pos (by omega)]
    have : (pa0 σ).1 166 i = σ.1 166 i := by unfold pa0; simp [u2]
    rw [this]; exact h6 i hi
  · intro k3 nn
    obtain ⟨w, k, e1, e2, e3, e4⟩ := hb k3 nn
    refine ⟨w, k, e1, e2, e3, ?_⟩
    rw [g3]; unfold pa0; simp [u2, e4]
theorem ial_go {f g : Nat → Int32} {n : Nat} : ∀ (m i : Nat) (q : Bool), i + m = n → (ialF f g m i q = true ↔ q = true ∧ ∀ j, i ≤ j → j < n → f j = g j)
  | 0, i, q, h => by
    rw [ialF]
    exact ⟨fun z => ⟨z, fun j h1 h2 => by omega⟩, fun z => z.1⟩
  | m + 1, i, q, h => by
    rw [ialF]
    by_cases c : q = true
    · rw [if_pos c, ial_go (n := n) m (i + 1) _ (by omega), decide_eq_true_iff]
      constructor
      · intro z
        refine ⟨c, fun j h1 h2 => ?_⟩
        by_cases e : j = i
        · rw [e]; exact z.1
        · exact z.2 j (by omega) h2
      · intro z
        exact ⟨z.2 i (Nat.le_refl _) (by omega), fun j h1 h2 => z.2 j (by omega) h2⟩
    · rw [if_neg c]
      exact ⟨fun z => absurd z (by decide), fun z => absurd z.1 c⟩
theorem rnd_c {A : Mx} (hd : mdt A = 1) (h : knd A = 1) : A.2.2.1 ≠ 0 := by
  intro c
  have ht : (mtr A).natAbs < 2 := by
    unfold knd at h
    split at h
    · next q => exact q
    · split at h
      · exact absurd h (by decide)
      · split at h <;> exact absurd h (by decide)
  unfold mdt at hd
  rw [c, Int.mul_zero] at hd
  have h1 : A.1 * A.2.2.2 = 1 := by omega
  have h2 := Int.natAbs_mul A.1 A.2.2.2
  rw [h1] at h2
  have h3 : A.1.natAbs = 1 := Nat.eq_one_of_mul_eq_one_right h2.symm
  unfold mtr at ht
  by_cases q : A.1 = 1
  · rw [q, Int.one_mul] at h1; omega
  · have q' : A.1 = -1 := by omega
    rw [q'] at h1; omega
theorem shN_bd {A : Mx} (h : bdM A) : -1000000 ≤ shN A ∧ shN A ≤ 1000000 := by
  have := gcd_bd h
  unfold shN
  split <;> omega
theorem whl_sb {A : Mx} (hA : okM A) : sbn (whl A) ∧ (whl A).length ≤ 40 ∧ (whl A).length % 2 = 0 ∧ rpos (whl A) ∧ (knd A = 3 → whl A ≠ []) := by
  by_cases c : knd A = 3
  · have hw : ∃ w, IsWh (psq A) w := by
      obtain ⟨ws, t, q, _⟩ := read_wh (k := 0) (r := 1) (e := 2) (w := 3) (p := 4) (i := 5) (σ := (fun _ _ => 0, fun a j => if a = 5 then (if j = 0 then lI A.1 else if j = 1 then lI A.2.1 else if j = 2 then lI A.2.2.1 else lI A.2.2.2) else 0)) (by decide) ⟨rfl, rfl, rfl, rfl⟩ hA (knd_3.mp c)
      exact ⟨_, q⟩
    obtain ⟨w, hw⟩ := hw
    rw [whl_eq c hw]
    obtain ⟨q1, q2, q3, _, C, q5⟩ := hw
    obtain ⟨l1, l2⟩ := wh_len q1 q3 q5 (psq_tr hA (knd_3.mp c)).2
    exact ⟨l2, l1, q1, q3, fun _ => q2⟩
  · rw [whl_nil c]
    exact ⟨fun n hn => by simp at hn, by simp, rfl, fun n hn => by simp at hn, fun z => absurd z c⟩
theorem alk_model {τ : Sg} {A B : Mx} {n : Nat} (hA : okM A) (hB : okM B) (a : Aside τ A) (h : Knows τ B) (hn : n = (whl B).length) : ialF (τ.1 166) (τ.1 169) n 0 (ial0 τ) = alk A B := by
  obtain ⟨a1, a2, a3, a4, a5, a6⟩ := a
  obtain ⟨h1, h2, h3, h4, h5, h6, _, _⟩ := h
  obtain ⟨sA, lA, _⟩ := whl_sb hA
  obtain ⟨sB, lB, _⟩ := whl_sb hB
  have tA := tr_bd hA.2
  have tB := tr_bd hB.2
  have nA := shN_bd hA.2
  have nB := shN_bd hB.2
  apply bool_of
  rw [alk_t, ial_go (n := n) n 0 _ (by omega)]
  have e0 : ial0 τ = true ↔ (knd B = knd A ∧ mtr B = mtr A ∧ (knd B = 1 → sdw B = sdw A) ∧ byA B = byA A ∧ (whl B).length = (whl A).length) := by
    unfold ial0
    rw [a1, a2, a3, a4, a5, h1, h2, h3, h4, h5]
    have et := lI_eq (x := mtr B) (y := mtr A) (by unfold rg; omega) (by unfold rg; omega)
    have eb : lI (if knd B = 2 then shN B else 0) = lI (byA A) ↔ byA B = byA A := by
      unfold byA
      exact lI_eq (by unfold rg; split <;> omega) (by unfold rg; split <;> omega)
    have el := nI_eq (a := (whl B).length) (b := (whl A).length) (by omega) (by omega)
    have es : (if B.2.2.1 < 0 then (-1 : Int32) else 1) = sdw B := rfl
    rw [es]
    by_cases c1 : knd B = knd A <;> by_cases c2 : mtr B = mtr A <;> by_cases c3 : knd B = 1 <;> by_cases c4 : sdw B = sdw A <;> by_cases c5 : byA B = byA A <;> by_cases c6 : (whl B).length = (whl A).length <;> simp_all
  rw [e0]
  have ew : ((whl B).length = (whl A).length ∧ ∀ j, 0 ≤ j → j < n → τ.1 166 j = τ.1 169 j) ↔ whl A = whl B := by
    constructor
    · intro ⟨l, z⟩
      apply ext_n (n := n) (by omega) (by omega)
      intro j hj
      have := z j (Nat.zero_le _) hj
      rw [h6 j (by omega), a6 j (by omega)] at this
      have b1 := sbn_get sA j
      have b2 := sbn_get sB j
      rw [getD_of (show j < (whl A).length by omega), getD_of (show j < (whl B).length by omega), (nI_eq (by omega) (by omega)).mp this]
    · intro z
      refine ⟨by rw [z], fun j _ hj => ?_⟩
      rw [h6 j (by omega), a6 j (by rw [z]; omega), z]
  have em : knd B = knd A → (((knd B = 1 → sdw B = sdw A) ∧ byA B = byA A) ↔ mrk A = mrk B) := by
    intro k
    unfold mrk byA
    rw [k]
    by_cases c1 : knd A = 1
    · rw [if_pos c1, if_pos c1, if_neg (by rw [c1]; decide), if_neg (by rw [c1]; decide)]
      have r1 := rnd_c hA.1 c1
      have r2 := rnd_c hB.1 (k.trans c1)
      unfold sdw
      by_cases q1 : A.2.2.1 < 0 <;> by_cases q2 : B.2.2.1 < 0
      · simp [q1, q2]
      · rw [if_pos q1, if_neg q2, if_pos q1, if_neg q2, if_pos (show 0 < B.2.2.1 by omega)]
        exact ⟨fun z => absurd (z.1 c1) (by decide), fun z => absurd z (by decide)⟩
      · rw [if_neg q1, if_pos q2, if_neg q1, if_pos q2, if_pos (show 0 < A.2.2.1 by omega)]
        exact ⟨fun z => absurd (z.1 c1) (by decide), fun z => absurd z (by decide)⟩
      · rw [if_neg q1, if_neg q2, if_neg q1, if_neg q2, if_pos (show 0 < A.2.2.1 by omega), if_pos (show 0 < B.2.2.1 by omega)]
        simp
    · rw [if_neg c1, if_neg c1]
      by_cases c2 : knd A = 2
      · rw [if_pos c2, if_pos c2, if_pos c2, if_pos c2, iI_inj (by omega) (by omega)]
        exact ⟨fun z => z.2.symm, fun z => ⟨fun q => absurd q c1, z.symm⟩⟩
      · rw [if_neg c2, if_neg c2, if_neg c2, if_neg c2]
        exact ⟨fun _ => rfl, fun _ => ⟨fun q => absurd q c1, rfl⟩⟩
  constructor
  · intro ⟨⟨z1, z2, z3, z4, z5⟩, z6⟩
    exact ⟨z1.symm, z2.symm, (em z1).mp ⟨z3, z4⟩, ew.mp ⟨z5, z6⟩⟩
  · intro ⟨z1, z2, z3, z4⟩
    obtain ⟨y1, y2⟩ := (em z1.symm).mpr z3
    obtain ⟨y3, y4⟩ := ew.mpr z4
    exact ⟨⟨z1.symm, z2.symm, y1, y2, y3⟩, y4⟩
