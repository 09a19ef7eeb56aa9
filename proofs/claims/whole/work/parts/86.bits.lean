/-! Sets of squares as numbers: their least, how many. -/
def zSg : Sg := (fun _ _ => 0, fun _ _ => 0)
def lbF : Nat → Nat → Nat
  | 0, _ => 0
  | m + 1, x => if x % 2 = 1 then 0 else 1 + lbF m (x / 2)
def chkL (a k : Nat) : Bool := (List.range k).all (fun i => a + i == 0 || rJ6_numberOfTrailingZeros_0f7a4 (nI (a + i)) zSg == nI (lbF 12 (a + i)))
def chkB (a k : Nat) : Bool := (List.range k).all (fun i => rJ6_bitCount_0f7a4 (nI (a + i)) zSg == bsF (nI (a + i)))
theorem chkL_0 : chkL 0 1024 = true := by decide +kernel
theorem chkL_1 : chkL 1024 1024 = true := by decide +kernel
theorem chkL_2 : chkL 2048 1024 = true := by decide +kernel
theorem chkL_3 : chkL 3072 1024 = true := by decide +kernel
theorem chkB_0 : chkB 0 1024 = true := by decide +kernel
theorem chkB_1 : chkB 1024 1024 = true := by decide +kernel
theorem chkB_2 : chkB 2048 1024 = true := by decide +kernel
theorem chkB_3 : chkB 3072 1024 = true := by decide +kernel
theorem chkL_at {a k x : Nat} (h : chkL a k = true) (h1 : a ≤ x) (h2 : x < a + k) (h0 : x ≠ 0) : rJ6_numberOfTrailingZeros_0f7a4 (nI x) zSg = nI (lbF 12 x) := by
  have := List.all_eq_true.mp h (x - a) (List.mem_range.mpr (by omega))
  rw [show a + (x - a) = x by omega] at this
  rcases Bool.or_eq_true_iff.mp this with q | q
  · exact absurd (beq_iff_eq.mp q) h0
  · exact beq_iff_eq.mp q
theorem chkB_at {a k x : Nat} (h : chkB a k = true) (h1 : a ≤ x) (h2 : x < a + k) : rJ6_bitCount_0f7a4 (nI x) zSg = bsF (nI x) := by
  have := List.all_eq_true.mp h (x - a) (List.mem_range.mpr (by omega))
  rw [show a + (x - a) = x by omega] at this
  exact beq_iff_eq.mp this
theorem ntz_lb {x : Nat} (h : x < 4096) (h0 : x ≠ 0) : rJ6_numberOfTrailingZeros_0f7a4 (nI x) zSg = nI (lbF 12 x) := by
  by_cases c1 : x < 1024
  · exact chkL_at chkL_0 (by omega) (by omega) h0
  · by_cases c2 : x < 2048
    · exact chkL_at chkL_1 (by omega) (by omega) h0
    · by_cases c3 : x < 3072
      · exact chkL_at chkL_2 (by omega) (by omega) h0
      · exact chkL_at chkL_3 (by omega) (by omega) h0
theorem bct_bs {x : Nat} (h : x < 4096) : rJ6_bitCount_0f7a4 (nI x) zSg = bsF (nI x) := by
  by_cases c1 : x < 1024
  · exact chkB_at chkB_0 (by omega) (by omega)
  · by_cases c2 : x < 2048
    · exact chkB_at chkB_1 (by omega) (by omega)
    · by_cases c3 : x < 3072
      · exact chkB_at chkB_2 (by omega) (by omega)
      · exact chkB_at chkB_3 (by omega) (by omega)
theorem lb_ok : ∀ (m x : Nat), x ≠ 0 → x < 2 ^ m → lbF m x < m ∧ x % 2 ^ lbF m x = 0 ∧ x / 2 ^ lbF m x % 2 = 1
  | 0, x, h0, h => by simp at h; exact absurd h h0
  | m + 1, x, h0, h => by
    rw [lbF]
    by_cases c : x % 2 = 1
    · rw [if_pos c]
      exact ⟨by omega, by simp; omega, by simpa using c⟩
    · rw [if_neg c]
      rw [Nat.pow_succ] at h
      obtain ⟨g1, g2, g3⟩ := lb_ok m (x / 2) (by omega) (by omega)
      refine ⟨by omega, ?_, ?_⟩
      · rw [Nat.pow_add, Nat.pow_one, Nat.mod_mul, g2, Nat.mul_zero]; omega
      · rw [Nat.pow_add, Nat.pow_one, ← Nat.div_div_eq_div_mul]; exact g3
theorem lb_un {x a b : Nat} (a1 : x % 2 ^ a = 0) (a2 : x / 2 ^ a % 2 = 1) (b1 : x % 2 ^ b = 0) (b2 : x / 2 ^ b % 2 = 1) : a = b := by
  have key : ∀ {a b : Nat}, a < b → x / 2 ^ a % 2 = 1 → x % 2 ^ b = 0 → False := by
    intro a b h h1 h2
    obtain ⟨q, hq⟩ := Nat.dvd_of_mod_eq_zero h2
    obtain ⟨d, hd⟩ : ∃ d, b = a + (d + 1) := ⟨b - a - 1, by omega⟩
    rw [hq, hd, Nat.pow_add, Nat.mul_assoc, Nat.mul_div_cancel_left _ (Nat.pow_pos (by omega)), Nat.pow_succ, Nat.mul_assoc, Nat.mul_comm (2 ^ d), Nat.mul_assoc, Nat.mul_mod_right] at h1
    omega
  by_cases c1 : a < b
  · exact (key c1 a2 b1).elim
  · by_cases c2 : b < a
    · exact (key c2 b2 a1).elim
    · omega
/-- the least of a set that holds s -/
theorem ntz_iff {x s : Nat} (h : x < 4096) (hs : s < 12) (hb : x / 2 ^ s % 2 = 1) : rJ6_numberOfTrailingZeros_0f7a4 (nI x) zSg = nI s ↔ nI x &&& (1 <<< (nI s &&& 31) - 1) = 0 := by
  have h0 : x ≠ 0 := fun z => by rw [z, Nat.zero_div] at hb; simp at hb
  obtain ⟨g1, g2, g3⟩ := lb_ok 12 x h0 (by simpa using h)
  have sh : ∀ s, s < 12 → ((1 : Int32) <<< (nI s &&& 31) - 1).toBitVec.toNat = 2 ^ s - 1 := by decide +kernel
  rw [ntz_lb h h0, nI_eq (by omega) (by omega), pk_andN (by omega) s (sh s hs)]
  have hm := Nat.mod_lt x (Nat.pow_pos (n := s) (show 0 < 2 by omega))
  have hp : 2 ^ s ≤ 2 ^ 11 := Nat.pow_le_pow_right (by omega) (by omega)
  rw [show (0 : Int32) = nI 0 from rfl, nI_eq (by omega) (by omega)]
  constructor
  · intro e; rw [← e]; exact g2
  · intro e; exact lb_un g2 g3 e hb
theorem or_nI (X Y : Nat) : nI X ||| nI Y = nI (X ||| Y) := by
  apply Int32.toBitVec_inj.mp
  show BitVec.ofNat 32 X ||| BitVec.ofNat 32 Y = BitVec.ofNat 32 (X ||| Y)
  apply BitVec.eq_of_toNat_eq
  simp [Nat.or_mod_two_pow]
theorem or_pw {X u : Nat} (hu : u < 12) (h : X < 2 ^ u) : nI X ||| (1 <<< (nI u &&& 31)) = nI (X + 2 ^ u) := by
  have sh : ∀ s, s < 12 → (1 : Int32) <<< (nI s &&& 31) = nI (2 ^ s) := by decide +kernel
  have h' := Nat.two_pow_add_eq_or_of_lt h 1
  rw [Nat.mul_one] at h'
  rw [sh u hu, or_nI, Nat.or_comm, ← h', Nat.add_comm]
def famN (p : Nat → Bool) : Nat → Nat → Nat → Nat
  | 0, _, X => X
  | m + 1, u, X => famN p m (u + 1) (if p u = true then X + 2 ^ u else X)
theorem fam_N {L : List Mx} {s : Nat} : ∀ (m u X : Nat), u + m ≤ 12 → X < 2 ^ u → famA L s m u (nI X) = nI (famN (fun u => alk (gq L s) (gq L u)) m u X) ∧ famN (fun u => alk (gq L s) (gq L u)) m u X < 2 ^ (u + m)
  | 0, u, X, _, h => ⟨rfl, h⟩
  | m + 1, u, X, hm, h => by
    rw [famA, famN]
    have e2 : 2 ^ (u + 1) = 2 ^ u + 2 ^ u := by rw [Nat.pow_succ]; omega
    by_cases c : alk (gq L s) (gq L u) = true
    · rw [if_pos c, if_pos c, or_pw (by omega) h]
      obtain ⟨g1, g2⟩ := fam_N (L := L) (s := s) m (u + 1) (X + 2 ^ u) (by omega) (by omega)
      exact ⟨g1, by rw [show u + (m + 1) = u + 1 + m by omega]; exact g2⟩
    · rw [if_neg c, if_neg c]
      obtain ⟨g1, g2⟩ := fam_N (L := L) (s := s) m (u + 1) X (by omega) (by omega)
      exact ⟨g1, by rw [show u + (m + 1) = u + 1 + m by omega]; exact g2⟩
theorem famN_lo (p : Nat → Bool) : ∀ (m u X : Nat), ∃ K, famN p m u X = X + 2 ^ u * K
  | 0, u, X => ⟨0, by rw [famN]; omega⟩
  | m + 1, u, X => by
    rw [famN]
    obtain ⟨K, hK⟩ := famN_lo p m (u + 1) (if p u = true then X + 2 ^ u else X)
    rw [hK, Nat.pow_succ]
    by_cases c : p u = true
    · rw [if_pos c]; exact ⟨1 + 2 * K, by rw [Nat.mul_add, Nat.mul_one, Nat.mul_assoc]; omega⟩
    · rw [if_neg c]; exact ⟨2 * K, by rw [Nat.mul_assoc]⟩
theorem famN_bit {p : Nat → Bool} {s : Nat} (hp : p s = true) : ∀ (m u X : Nat), X < 2 ^ u → u ≤ s → s < u + m → famN p m u X / 2 ^ s % 2 = 1
  | 0, u, X, _, h1, h2 => by omega
  | m + 1, u, X, h, h1, h2 => by
    rw [famN]
    have e2 : 2 ^ (u + 1) = 2 ^ u + 2 ^ u := by rw [Nat.pow_succ]; omega
    by_cases c : s = u
    · subst c
      rw [if_pos hp]
      obtain ⟨K, hK⟩ := famN_lo p m (s + 1) (X + 2 ^ s)
      rw [hK]
      have e3 : X + 2 ^ s + 2 ^ (s + 1) * K = 2 ^ s * (1 + 2 * K) + X := by
        rw [Nat.pow_succ, Nat.mul_add, Nat.mul_one, Nat.mul_assoc]; omega
      rw [e3, Nat.mul_add_div (Nat.pow_pos (by omega)), Nat.div_eq_of_lt h]
      omega
    · refine famN_bit hp m (u + 1) _ ?_ (by omega) (by omega)
      split <;> omega
theorem alk_self (A : Mx) : alk A A = true := alk_t.mpr ⟨rfl, rfl, rfl, rfl⟩
theorem fam_ex {L : List Mx} {s : Nat} (hl : L.length ≤ 12) (hs : s < L.length) : ∃ X, famA L s L.length 0 0 = nI X ∧ X < 4096 ∧ X / 2 ^ s % 2 = 1 := by
  obtain ⟨g1, g2⟩ := fam_N (L := L) (s := s) L.length 0 0 (by omega) (by simp)
  refine ⟨_, g1, ?_, famN_bit (p := fun u => alk (gq L s) (gq L u)) (alk_self _) L.length 0 0 (by simp) (by omega) (by omega)⟩
  have : 2 ^ (0 + L.length) ≤ 2 ^ 12 := Nat.pow_le_pow_right (by omega) (by omega)
  omega
/-- the reference's families -/
noncomputable def gfaM (L : List Mx) : Nat → Nat → Int32 → Int32 := gfaA L
theorem fs_m {L : List Mx} (ok : okL L) : ∀ (m s : Nat) (x : Int32) (Y : Nat) (σ : Sg), s + m = L.length → M1 σ L → Y < 4096 → (fsF L.length m s x (nI Y) σ).1.1 = cfaA L m s x ∧ (fsF L.length m s x (nI Y) σ).1.2 = gfaA L m s (nI Y) ∧ Kq I10 L10 σ (fsF L.length m s x (nI Y) σ).2
  | 0, _, _, _, σ, _, _, _ => by rw [fsF, cfaA, gfaA]; exact ⟨rfl, rfl, Kq.rfl⟩
  | m + 1, s, x, Y, σ, hs, h, hY => by
    have hl := ok.1
    obtain ⟨g1, g2⟩ := fy_m (s := s) (nI s) h ok (by omega)
    have g1' : (fyF L.length s σ).1 = famA L s L.length 0 0 := g1
    have g2' : Kq I10 L10 σ (fyF L.length s σ).2 := g2
    rw [fsF, cfaA, gfaA, g1']
    obtain ⟨X, e1, e2, e3⟩ := fam_ex hl (show s < L.length by omega)
    rw [e1]
    have n1 : rJ6_numberOfTrailingZeros_0f7a4 (nI X) ((fun _ _ => 0, fun _ _ => 0) : Sg) = nI s ↔ nI X &&& (1 <<< (nI s &&& 31) - 1) = 0 := ntz_iff e2 (show s < 12 by omega) e3
    have ec : (if nI X &&& (1 <<< (nI s &&& 31) - 1) = 0 then x + 1 else x + 0) = (if rJ6_numberOfTrailingZeros_0f7a4 (nI X) ((fun _ _ => 0, fun _ _ => 0) : Sg) = nI s then x + 1 else x) := by
      by_cases c : nI X &&& (1 <<< (nI s &&& 31) - 1) = 0
      · rw [if_pos c, if_pos (n1.mpr c)]
      · rw [if_neg c, if_neg (fun z => c (n1.mp z)), Int32.add_zero]
    have eb : (if bsF (nI X) ≤ bsF (nI Y) then nI Y else nI X) = (if rJ6_bitCount_0f7a4 (nI X) ((fun _ _ => 0, fun _ _ => 0) : Sg) ≤ rJ6_bitCount_0f7a4 (nI Y) ((fun _ _ => 0, fun _ _ => 0) : Sg) then nI Y else nI X) := by
      have b1 : rJ6_bitCount_0f7a4 (nI X) ((fun _ _ => 0, fun _ _ => 0) : Sg) = bsF (nI X) := bct_bs e2
      have b2 : rJ6_bitCount_0f7a4 (nI Y) ((fun _ _ => 0, fun _ _ => 0) : Sg) = bsF (nI Y) := bct_bs hY
      rw [b1, b2]
    rw [ec, eb]
    by_cases c : rJ6_bitCount_0f7a4 (nI X) ((fun _ _ => 0, fun _ _ => 0) : Sg) ≤ rJ6_bitCount_0f7a4 (nI Y) ((fun _ _ => 0, fun _ _ => 0) : Sg)
    · rw [if_pos c]
      obtain ⟨k1, k2, k3⟩ := fs_m ok m (s + 1) (if rJ6_numberOfTrailingZeros_0f7a4 (nI X) ((fun _ _ => 0, fun _ _ => 0) : Sg) = nI s then x + 1 else x) Y (fyF L.length s σ).2 (by omega) (h.kq g2') hY
      exact ⟨k1, k2, g2'.trans k3⟩
    · rw [if_neg c]
      obtain ⟨k1, k2, k3⟩ := fs_m ok m (s + 1) (if rJ6_numberOfTrailingZeros_0f7a4 (nI X) ((fun _ _ => 0, fun _ _ => 0) : Sg) = nI s then x + 1 else x) X (fyF L.length s σ).2 (by omega) (h.kq g2') e2
      exact ⟨k1, k2, g2'.trans k3⟩
