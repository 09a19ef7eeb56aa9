theorem ev_X2_kinOf {l : Launch} {b : Nat} {cy : Nat → ClassId} {D : va_G} {d : Nat} {s : Nat} {x1 : Int32} {σ : Sg} (q1 : x1 = nI s) (hs : s < 12) : Es l b cy D (d + 0) yX2_kinOf cX2_kinOf (Option.some (Jvm.ClassFile.FieldType.object "MatrixKin$Kin")) 2 [.ref (b + 51), .int (x1)] σ (some (.ref (b + (65 + 7 * s)))) σ := by
  refine Ev.of (by decide) (Nat.le_of_ble_eq_true rfl) rfl ?_
  refine g_aload_n (pc' := 1) dX2_kinOf_0 rfl 0 rfl rfl ?_
  refine g_getR (pc' := 4) (a := 52) dX2_kinOf_1 rfl (PLk.lf fX2_11) o51 rfl ?_
  refine g_iload_n (pc' := 5) dX2_kinOf_4 rfl 1 rfl rfl ?_
  refine g_aald (pc' := 6) (j := s) (a := (65 + 7 * s)) dX2_kinOf_5 rfl o52 (by decide) rfl (by decide) q1 hs (ak _ hs) ?_
  exact g_aret dX2_kinOf_6 rfl ⟨rfl, rfl⟩ rfl
theorem has_t {x : Int32} {n : Nat} {σ : Sg} (hz : σ.1 1 1 = nI n) (hn : n ≤ 12) (c : rX5_has 1 2 x σ = true) : x = nI x.toNatClampNeg ∧ x.toNatClampNeg < n := by
  unfold rX5_has at c
  by_cases h : x < 0
  · rw [if_pos h] at c; cases c
  · rw [if_neg h] at c
    have e := nI_self h
    refine ⟨e, ?_⟩
    by_cases h2 : σ.1 1 1 ≤ x
    · rw [if_pos h2] at c; cases c
    · exact nnle (a := n) (c := x.toNatClampNeg) h2 hz e (by omega) (by obtain ⟨j, hj, e⟩ := nI_of h; rw [e, nI_clamp hj]; exact hj)
theorem rem_1 {i c2 q n a : Nat} {σ : Sg} (h1 : a ≠ 3) (h2 : a ≠ 5 + 2 * q) (h3 : a ≠ 5 + 2 * q + 1) : (sX4_remember i c2 q n σ).1 a = σ.1 a := by
  unfold sX4_remember cfS
  dsimp only
  rw [u2k h1, u2k h1, u2k h2]
  exact funext fun _ => if_neg h3
theorem rem_2 {i c2 q n : Nat} {σ : Sg} : (sX4_remember i c2 q n σ).2 = σ.2 := rfl
theorem spF_1 {i a : Nat} (h : a ≠ 45) : ∀ (m j : Nat) (σ : Sg), (spF i m j σ).2.1 a = σ.1 a
  | 0, _, _ => rfl
  | m + 1, j, σ => by
    rw [spF]
    split
    · split
      · rw [spF_1 h m, mbl_1]
      · dsimp only; rw [u2k h, mbl_1]
    · dsimp only; rw [u2k h, mbl_1]
theorem laF_1 {a : Nat} (h : a < 65) : ∀ (m s : Nat) (σ : Sg), (laF m s σ).1 a = σ.1 a
  | 0, _, _ => rfl
  | m + 1, s, σ => by rw [laF, laF_1 h m, laS_1 h]
theorem laS_w {s : Nat} {σ : Sg} (h : WAll σ) : WAll (laS s σ) := by
  intro u hu
  by_cases e : u = s
  · subst e
    unfold laS
    exact look_ok (by omega) ((h u hu).fr rfl)
  · refine (h u hu).fr ?_
    unfold laS
    rw [look_1 (by omega) (by omega) (by omega), lds_1]
theorem laF_w : ∀ (m s : Nat) (σ : Sg), WAll σ → WAll (laF m s σ)
  | 0, _, _, h => h
  | m + 1, s, σ, h => laF_w m (s + 1) _ (laS_w h)
theorem laF_x {m s : Nat} {σ : Sg} (h : WOk σ 55) : WOk (laF m s σ) 55 := h.fr (laF_1 (by omega) m s σ)
theorem la0_1 {a : Nat} {σ : Sg} (h : a ≠ 51) : (la0 σ).1 a = σ.1 a := by show u2 σ.1 51 6 (σ.1 1 1) a = σ.1 a; exact u2k h
theorem laR_1 {n a : Nat} {σ : Sg} (h : a < 65) (h2 : a ≠ 51) : (laR n σ).1 a = σ.1 a := (laF_1 h n 0 (la0 σ)).trans (la0_1 h2)
theorem laR_z {n : Nat} {σ : Sg} (h : σ.1 1 1 = nI n) : (laR n σ).1 51 6 = nI n := by
  unfold laR
  rw [laF_1 (by omega)]
  exact la0_z.trans h
theorem laR_w {n : Nat} {σ : Sg} (h : WAll σ) : WAll (laR n σ) := laF_w n 0 _ (fun s hs => (h s hs).fr (la0_1 (by omega)))
theorem laR_x {n : Nat} {σ : Sg} (h : WOk σ 55) : WOk (laR n σ) 55 := laF_x (h.fr (la0_1 (by omega)))
def rX10_place (i : Nat) (q : Nat) (n : Nat)  (σ : Sg) : Int32 := nI n
def sX10_place (i : Nat) (q : Nat) (n : Nat)  (σ : Sg) : Sg := adS 1 2 i n (sX4_remember 1 2 q n σ)
set_option maxRecDepth 100000 in
set_option maxHeartbeats 4000000 in
theorem ev_X10_place {l : Launch} {b : Nat} {cy : Nat → ClassId} {D : va_G} {d : Nat} {i : Nat} {q : Nat} {n : Nat}  {σ : Sg} (hi : Sq i) (hx : σ.1 3 1 = nI q) (hq : q < 20) (hz : σ.1 1 1 = nI n) (hn : n < 12) : Es l b cy D (d + 3) yX10_place cX10_place (Option.some Jvm.ClassFile.FieldType.int) 2 [.ref (b + 0), .ref (b + i)] σ (some (.int (rX10_place i q n σ))) (sX10_place i q n σ) := by
  refine Ev.of (by decide) (Nat.le_of_ble_eq_true rfl) rfl ?_
  refine g_aload_n (pc' := 1) dX10_place_0 rfl 0 rfl rfl ?_
  refine g_getR (pc' := 4) (a := 3) dX10_place_1 rfl (PLk.lf fX10_19) o0 rfl ?_
  refine g_aload_n (pc' := 5) dX10_place_4 rfl 0 rfl rfl ?_
  refine g_getR (pc' := 8) (a := 1) dX10_place_5 rfl (PLk.lf fX10_10) o0 rfl ?_
  refine g_callv (pc' := 11) dX10_place_8 rfl mX10_220 (ev_X4_remember (i := 1) (c2 := 2) (q := q) (n := n) (σ := σ) sf1 hx hq hz (by omega) (d := d)) o3 rfl (rm_ok (by omega) (by decide)) ⟨rfl, rfl⟩ ⟨Nat.zero_le _, Nat.zero_le _⟩ rfl rfl (Nat.le_of_ble_eq_true rfl) ?_
  refine g_aload_n (pc' := 12) dX10_place_11 rfl 0 rfl rfl ?_
  refine g_getR (pc' := 15) (a := 1) dX10_place_12 rfl (PLk.lf fX10_10) o0 rfl ?_
  refine g_aload_n (pc' := 16) dX10_place_15 rfl 1 rfl rfl ?_
  refine g_callr (pc' := 19) dX10_place_16 rfl mX10_234 (ev_X5_add (k := 1) (c := 2) (i := i) (n := n) (σ := sX4_remember 1 2 q n σ) sf1 hi (by rw [rem_1 (by omega) (by omega) (by omega)]; exact hz) hn (d := d)) o1 rfl (rm_ok (by omega) (by decide)) ⟨rfl, rfl⟩ ⟨Nat.zero_le _, Nat.zero_le _⟩ rfl rfl (Nat.le_of_ble_eq_true rfl) ?_
  exact g_iret dX10_place_19 rfl ⟨rfl, rfl⟩ rfl
def rX10_exchange (i : Nat) (s : Nat) (q : Nat) (n : Nat) (x1 : Int32) (σ : Sg) : Int32 := if (stB 2 i s (sX4_remember 1 2 q n σ)) = true then 1 else 0
def sX10_exchange (i : Nat) (s : Nat) (q : Nat) (n : Nat) (x1 : Int32) (σ : Sg) : Sg := if (stB 2 i s (sX4_remember 1 2 q n σ)) = true then stS 2 i s (sX4_remember 1 2 q n σ) else stS 2 i s (sX4_remember 1 2 q n σ)
set_option maxRecDepth 100000 in
set_option maxHeartbeats 4000000 in
theorem ev_X10_exchange {l : Launch} {b : Nat} {cy : Nat → ClassId} {D : va_G} {d : Nat} {i : Nat} {s : Nat} {q : Nat} {n : Nat} {x1 : Int32} {σ : Sg} (hi : Sq i) (q1 : x1 = nI s) (hs : s < 12) (hx : σ.1 3 1 = nI q) (hq : q < 20) (hz : σ.1 1 1 = nI n) (hn : n ≤ 12) : Es l b cy D (d + 3) yX10_exchange cX10_exchange (Option.some Jvm.ClassFile.FieldType.int) 3 [.ref (b + 0), .int (x1), .ref (b + i)] σ (some (.int (rX10_exchange i s q n x1 σ))) (sX10_exchange i s q n x1 σ) := by
  refine Ev.of (by decide) (Nat.le_of_ble_eq_true rfl) rfl ?_
  refine g_aload_n (pc' := 1) dX10_exchange_0 rfl 0 rfl rfl ?_
  refine g_getR (pc' := 4) (a := 3) dX10_exchange_1 rfl (PLk.lf fX10_19) o0 rfl ?_
  refine g_aload_n (pc' := 5) dX10_exchange_4 rfl 0 rfl rfl ?_
  refine g_getR (pc' := 8) (a := 1) dX10_exchange_5 rfl (PLk.lf fX10_10) o0 rfl ?_
  refine g_callv (pc' := 11) dX10_exchange_8 rfl mX10_220 (ev_X4_remember (i := 1) (c2 := 2) (q := q) (n := n) (σ := σ) sf1 hx hq hz (by omega) (d := d)) o3 rfl (rm_ok (by omega) (by decide)) ⟨rfl, rfl⟩ ⟨Nat.zero_le _, Nat.zero_le _⟩ rfl rfl (Nat.le_of_ble_eq_true rfl) ?_
  refine g_aload_n (pc' := 12) dX10_exchange_11 rfl 0 rfl rfl ?_
  refine g_getR (pc' := 15) (a := 1) dX10_exchange_12 rfl (PLk.lf fX10_10) o0 rfl ?_
  refine g_iload_n (pc' := 16) dX10_exchange_15 rfl 1 rfl rfl ?_
  refine g_aload_n (pc' := 17) dX10_exchange_16 rfl 2 rfl rfl ?_
  refine g_callr (pc' := 20) dX10_exchange_17 rfl mX10_237 (ev_X5_store (k := 1) (c := 2) (i := i) (x1 := x1) (s := s) (σ := sX4_remember 1 2 q n σ) sf1 hi q1 hs (d := d + 1)) o1 rfl (rm_ok (by omega) (by decide)) ⟨rfl, rfl⟩ ⟨Nat.zero_le _, Nat.zero_le _⟩ rfl rfl (Nat.le_of_ble_eq_true rfl) ?_
  refine g_ifb_eq (pc' := 23) (tgt := 27) dX10_exchange_20 rfl (by decide) (fun (c1 : (stB 2 i s (sX4_remember 1 2 q n σ)) = false) => ?_) (fun (c1 : (stB 2 i s (sX4_remember 1 2 q n σ)) = true) => ?_)
  · refine g_iconst (pc' := 28) (v := 0) dX10_exchange_27 rfl (by decide) ?_
    exact g_iret dX10_exchange_28 rfl ⟨rfl, rfl⟩ (by simp only [rX10_exchange, sX10_exchange, if_neg (bf c1), bI_t, bI_f])
  · refine g_iconst (pc' := 24) (v := 1) dX10_exchange_23 rfl (by decide) ?_
    refine g_goto (tgt := 28) dX10_exchange_24 (by decide) ?_
    exact g_iret dX10_exchange_28 rfl ⟨rfl, rfl⟩ (by simp only [rX10_exchange, sX10_exchange, if_pos c1, bI_t, bI_f])
def rX10_feed (tl : Nat) (x1 : Int32) (σ : Sg) : Int32 := if (x1 : Int32) < 0 then -1000000002 else if (x1 : Int32) ≤ 255 then if (rX7_isFull σ) = true then -1000000004 else rX7_length (sX7_append tl x1 σ) else -1000000002
def sX10_feed (tl : Nat) (x1 : Int32) (σ : Sg) : Sg := if (x1 : Int32) < 0 then σ else if (x1 : Int32) ≤ 255 then if (rX7_isFull σ) = true then σ else sX7_append tl x1 σ else σ
set_option maxRecDepth 100000 in
set_option maxHeartbeats 4000000 in
theorem ev_X10_feed {l : Launch} {b : Nat} {cy : Nat → ClassId} {D : va_G} {d : Nat} {tl : Nat} {x1 : Int32} {σ : Sg}  (ht : σ.1 45 1 = nI tl) (htl : tl ≤ 60) : Es l b cy D (d + 2) yX10_feed cX10_feed (Option.some Jvm.ClassFile.FieldType.int) 2 [.ref (b + 0), .int (x1)] σ (some (.int (rX10_feed tl x1 σ))) (sX10_feed tl x1 σ) := by
  refine Ev.of (by decide) (Nat.le_of_ble_eq_true rfl) rfl ?_
  refine g_iload_n (pc' := 1) dX10_feed_0 rfl 1 rfl rfl ?_
  refine g_if_lt (pc' := 4) (tgt := 11) dX10_feed_1 rfl (by decide) (fun (c1 : (x1 : Int32) < 0) => ?_) (fun (c1 : ¬ (x1 : Int32) < 0) => ?_)
  · refine g_ldc (pc' := 13) dX10_feed_11 rfl kX10_68 ?_
    exact g_iret dX10_feed_13 rfl ⟨rfl, rfl⟩ (by simp only [rX10_feed, sX10_feed, if_pos c1, bI_t, bI_f])
  · refine g_iload_n (pc' := 5) dX10_feed_4 rfl 1 rfl rfl ?_
    refine g_sipush (pc' := 8) (v := 255) dX10_feed_5 rfl (by decide) ?_
    refine g_icmp_le (pc' := 11) (tgt := 14) dX10_feed_8 rfl (by decide) (fun (c2 : (x1 : Int32) ≤ 255) => ?_) (fun (c2 : ¬ (x1 : Int32) ≤ 255) => ?_)
    · refine g_aload_n (pc' := 15) dX10_feed_14 rfl 0 rfl rfl ?_
      refine g_getR (pc' := 18) (a := 45) dX10_feed_15 rfl (PLk.lf fX10_26) o0 rfl ?_
      refine g_callr (pc' := 21) dX10_feed_18 rfl mX10_69 (ev_X7_isFull  (σ := σ)  (d := d + 1)) o45 rfl (rm_ok (by omega) (by decide)) ⟨rfl, rfl⟩ ⟨Nat.zero_le _, Nat.zero_le _⟩ rfl rfl (Nat.le_of_ble_eq_true rfl) ?_
      refine g_ifb_eq (pc' := 24) (tgt := 27) dX10_feed_21 rfl (by decide) (fun (c3 : (rX7_isFull σ) = false) => ?_) (fun (c3 : (rX7_isFull σ) = true) => ?_)
      · refine g_aload_n (pc' := 28) dX10_feed_27 rfl 0 rfl rfl ?_
        refine g_getR (pc' := 31) (a := 45) dX10_feed_28 rfl (PLk.lf fX10_26) o0 rfl ?_
        refine g_iload_n (pc' := 32) dX10_feed_31 rfl 1 rfl rfl ?_
        refine g_callv (pc' := 35) dX10_feed_32 rfl mX10_74 (ev_X7_append (n := tl) (x1 := x1) (σ := σ) ht htl (d := d)) o45 rfl (rm_ok (by omega) (by decide)) ⟨rfl, rfl⟩ ⟨Nat.zero_le _, Nat.zero_le _⟩ rfl rfl (Nat.le_of_ble_eq_true rfl) ?_
        refine g_aload_n (pc' := 36) dX10_feed_35 rfl 0 rfl rfl ?_
        refine g_getR (pc' := 39) (a := 45) dX10_feed_36 rfl (PLk.lf fX10_26) o0 rfl ?_
        refine g_callr (pc' := 42) dX10_feed_39 rfl mX10_78 (ev_X7_length  (σ := sX7_append tl x1 σ)  (d := d + 1)) o45 rfl (rm_ok (by omega) (by decide)) ⟨rfl, rfl⟩ ⟨Nat.zero_le _, Nat.zero_le _⟩ rfl rfl (Nat.le_of_ble_eq_true rfl) ?_
        exact g_iret dX10_feed_42 rfl ⟨rfl, rfl⟩ (by simp only [rX10_feed, sX10_feed, if_neg c1, if_pos c2, if_neg (bf c3), bI_t, bI_f])
      · refine g_ldc (pc' := 26) dX10_feed_24 rfl kX10_73 ?_
        exact g_iret dX10_feed_26 rfl ⟨rfl, rfl⟩ (by simp only [rX10_feed, sX10_feed, if_neg c1, if_pos c2, if_pos c3, bI_t, bI_f])
    · refine g_ldc (pc' := 13) dX10_feed_11 rfl kX10_68 ?_
      exact g_iret dX10_feed_13 rfl ⟨rfl, rfl⟩ (by simp only [rX10_feed, sX10_feed, if_neg c1, if_neg c2, bI_t, bI_f])
def rX10_fault   (σ : Sg) : Int32 := rX7_faultPlace σ
set_option maxRecDepth 100000 in
set_option maxHeartbeats 4000000 in
theorem ev_X10_fault {l : Launch} {b : Nat} {cy : Nat → ClassId} {D : va_G} {d : Nat}   {σ : Sg}   : Es l b cy D (d + 1) yX10_fault cX10_fault (Option.some Jvm.ClassFile.FieldType.int) 1 [.ref (b + 0)] σ (some (.int (rX10_fault σ))) σ := by
  refine Ev.of (by decide) (Nat.le_of_ble_eq_true rfl) rfl ?_
  refine g_aload_n (pc' := 1) dX10_fault_0 rfl 0 rfl rfl ?_
  refine g_getR (pc' := 4) (a := 45) dX10_fault_1 rfl (PLk.lf fX10_26) o0 rfl ?_
  refine g_callr (pc' := 7) dX10_fault_4 rfl mX10_93 (ev_X7_faultPlace  (σ := σ)  (d := d)) o45 rfl (rm_ok (by omega) (by decide)) ⟨rfl, rfl⟩ ⟨Nat.zero_le _, Nat.zero_le _⟩ rfl rfl (Nat.le_of_ble_eq_true rfl) ?_
  exact g_iret dX10_fault_7 rfl ⟨rfl, rfl⟩ rfl
theorem nfull {n : Nat} {σ τ : Sg} (hz : σ.1 1 1 = nI n) (hn : n ≤ 12) (c : rX5_isFull 1 2 τ = false) (e : τ.1 1 1 = σ.1 1 1 := by rfl) : n < 12 := by
  rcases Nat.lt_or_ge n 12 with h | h
  · exact h
  · rw [full_t (e.trans hz) (by omega)] at c; cases c
def rX10_write (q : Nat) (n : Nat) (tl : Nat)  (σ : Sg) : Int32 := if (rX5_isFull 1 2 σ) = true then -1000000004 else if ((spF 152 tl 0 (sp0 152 σ)).1 : Int32) = 0 then rX10_place 152 q n (sX7_clear ((spF 152 tl 0 (sp0 152 σ)).2)) else (-10) - ((spF 152 tl 0 (sp0 152 σ)).1)
def sX10_write (q : Nat) (n : Nat) (tl : Nat)  (σ : Sg) : Sg := if (rX5_isFull 1 2 σ) = true then σ else if ((spF 152 tl 0 (sp0 152 σ)).1 : Int32) = 0 then sX10_place 152 q n (sX7_clear ((spF 152 tl 0 (sp0 152 σ)).2)) else sX7_clear ((spF 152 tl 0 (sp0 152 σ)).2)
set_option maxRecDepth 100000 in
set_option maxHeartbeats 4000000 in
theorem ev_X10_write {l : Launch} {b : Nat} {cy : Nat → ClassId} {D : va_G} {d : Nat} {q : Nat} {n : Nat} {tl : Nat}  {σ : Sg}  (hx : σ.1 3 1 = nI q) (hq : q < 20) (hz : σ.1 1 1 = nI n) (hn : n ≤ 12) (ht : σ.1 45 1 = nI tl) (htl : tl ≤ 60) : Es l b cy D (d + 4) yX10_write cX10_write (Option.some Jvm.ClassFile.FieldType.int) 2 [.ref (b + 0)] σ (some (.int (rX10_write q n tl σ))) (sX10_write q n tl σ) := by
  refine Ev.of (by decide) (Nat.le_of_ble_eq_true rfl) rfl ?_
  refine g_aload_n (pc' := 1) dX10_write_0 rfl 0 rfl rfl ?_
  refine g_getR (pc' := 4) (a := 1) dX10_write_1 rfl (PLk.lf fX10_10) o0 rfl ?_
  refine g_callr (pc' := 7) dX10_write_4 rfl mX10_82 (ev_X5_isFull (k := 1) (c := 2) (σ := σ) sf1 (d := d + 3)) o1 rfl (rm_ok (by omega) (by decide)) ⟨rfl, rfl⟩ ⟨Nat.zero_le _, Nat.zero_le _⟩ rfl rfl (Nat.le_of_ble_eq_true rfl) ?_
  refine g_ifb_eq (pc' := 10) (tgt := 13) dX10_write_7 rfl (by decide) (fun (c1 : (rX5_isFull 1 2 σ) = false) => ?_) (fun (c1 : (rX5_isFull 1 2 σ) = true) => ?_)
  · refine g_aload_n (pc' := 14) dX10_write_13 rfl 0 rfl rfl ?_
    refine g_getR (pc' := 17) (a := 45) dX10_write_14 rfl (PLk.lf fX10_26) o0 rfl ?_
    refine g_aload_n (pc' := 18) dX10_write_17 rfl 0 rfl rfl ?_
    refine g_getR (pc' := 21) (a := 152) dX10_write_18 rfl (PLk.lf fX10_60) o0 rfl ?_
    refine g_callr (pc' := 24) dX10_write_21 rfl mX10_83 (ev_X7_spell (i := 152) (n := tl) (σ := σ) o152 ht htl (d := d + 1)) o45 rfl (rm_ok (by omega) (by decide)) ⟨rfl, rfl⟩ ⟨Nat.zero_le _, Nat.zero_le _⟩ rfl rfl (Nat.le_of_ble_eq_true rfl) ?_
    refine g_istore_n (pc' := 25) (j := 1) (lv' := [(1, .int ((spF 152 tl 0 (sp0 152 σ)).1)), (0, .ref (b + 0))]) dX10_write_24 rfl rfl (by decide) rfl ?_
    refine g_aload_n (pc' := 26) dX10_write_25 rfl 1 rfl rfl ?_
    refine g_getR (pc' := 29) (a := 45) dX10_write_26 rfl (PLk.lf fX10_26) o0 rfl ?_
    refine g_callv (pc' := 32) dX10_write_29 rfl mX10_87 (ev_X7_clear  (σ := (spF 152 tl 0 (sp0 152 σ)).2)  (d := d + 3)) o45 rfl (rm_ok (by omega) (by decide)) ⟨rfl, rfl⟩ ⟨Nat.zero_le _, Nat.zero_le _⟩ rfl rfl (Nat.le_of_ble_eq_true rfl) ?_
    refine g_iload_n (pc' := 33) dX10_write_32 rfl 0 rfl rfl ?_
    refine g_if_eq (pc' := 36) (tgt := 41) dX10_write_33 rfl (by decide) (fun (c2 : ((spF 152 tl 0 (sp0 152 σ)).1 : Int32) = 0) => ?_) (fun (c2 : ¬ ((spF 152 tl 0 (sp0 152 σ)).1 : Int32) = 0) => ?_)
    · refine g_aload_n (pc' := 42) dX10_write_41 rfl 1 rfl rfl ?_
      refine g_aload_n (pc' := 43) dX10_write_42 rfl 1 rfl rfl ?_
      refine g_getR (pc' := 46) (a := 152) dX10_write_43 rfl (PLk.lf fX10_60) o0 rfl ?_
      refine g_callr (pc' := 49) dX10_write_46 rfl mX10_90 (ev_X10_place (i := 152) (q := q) (n := n) (σ := sX7_clear ((spF 152 tl 0 (sp0 152 σ)).2)) o152 (by unfold sX7_clear; dsimp only; rw [u2k (by decide), spF_1 (by decide)]; unfold sp0; dsimp only; rw [u2k (by decide)]; exact hx) hq (by unfold sX7_clear; dsimp only; rw [u2k (by decide), spF_1 (by decide)]; unfold sp0; dsimp only; rw [u2k (by decide)]; exact hz) (nfull hz hn c1) (d := d)) o0 rfl (rm_ok (by omega) (by decide)) ⟨rfl, rfl⟩ ⟨Nat.zero_le _, Nat.zero_le _⟩ rfl rfl (Nat.le_of_ble_eq_true rfl) ?_
      exact g_iret dX10_write_49 rfl ⟨rfl, rfl⟩ (by simp only [rX10_write, sX10_write, if_neg (bf c1), if_pos c2, bI_t, bI_f])
    · refine g_bipush (pc' := 38) (v := -10) dX10_write_36 rfl (by decide) ?_
      refine g_iload_n (pc' := 39) dX10_write_38 rfl 0 rfl rfl ?_
      refine g_isub (pc' := 40) dX10_write_39 rfl ?_
      exact g_iret dX10_write_40 rfl ⟨rfl, rfl⟩ (by simp only [rX10_write, sX10_write, if_neg (bf c1), if_neg c2, bI_t, bI_f])
  · refine g_ldc (pc' := 12) dX10_write_10 rfl kX10_73 ?_
    exact g_iret dX10_write_12 rfl ⟨rfl, rfl⟩ (by simp only [rX10_write, sX10_write, if_pos c1, bI_t, bI_f])
def rX10_put (q : Nat) (n : Nat) (x1 : Int32) (x2 : Int32) (x3 : Int32) (x4 : Int32) (σ : Sg) : Int32 := if (rX6_isWithinBounds 152 (sX6_set 152 ((x1 : Int32).toInt64) ((x2 : Int32).toInt64) ((x3 : Int32).toInt64) ((x4 : Int32).toInt64) σ)) = true then if (rX6_hasAreaOne 152 (sX6_set 152 ((x1 : Int32).toInt64) ((x2 : Int32).toInt64) ((x3 : Int32).toInt64) ((x4 : Int32).toInt64) σ)) = true then if (rX5_isFull 1 2 (sX6_set 152 ((x1 : Int32).toInt64) ((x2 : Int32).toInt64) ((x3 : Int32).toInt64) ((x4 : Int32).toInt64) σ)) = true then -1000000004 else rX10_place 152 q n (sX6_set 152 ((x1 : Int32).toInt64) ((x2 : Int32).toInt64) ((x3 : Int32).toInt64) ((x4 : Int32).toInt64) σ) else -1000000003 else -1000000002
def sX10_put (q : Nat) (n : Nat) (x1 : Int32) (x2 : Int32) (x3 : Int32) (x4 : Int32) (σ : Sg) : Sg := if (rX6_isWithinBounds 152 (sX6_set 152 ((x1 : Int32).toInt64) ((x2 : Int32).toInt64) ((x3 : Int32).toInt64) ((x4 : Int32).toInt64) σ)) = true then if (rX6_hasAreaOne 152 (sX6_set 152 ((x1 : Int32).toInt64) ((x2 : Int32).toInt64) ((x3 : Int32).toInt64) ((x4 : Int32).toInt64) σ)) = true then if (rX5_isFull 1 2 (sX6_set 152 ((x1 : Int32).toInt64) ((x2 : Int32).toInt64) ((x3 : Int32).toInt64) ((x4 : Int32).toInt64) σ)) = true then sX6_set 152 ((x1 : Int32).toInt64) ((x2 : Int32).toInt64) ((x3 : Int32).toInt64) ((x4 : Int32).toInt64) σ else sX10_place 152 q n (sX6_set 152 ((x1 : Int32).toInt64) ((x2 : Int32).toInt64) ((x3 : Int32).toInt64) ((x4 : Int32).toInt64) σ) else sX6_set 152 ((x1 : Int32).toInt64) ((x2 : Int32).toInt64) ((x3 : Int32).toInt64) ((x4 : Int32).toInt64) σ else sX6_set 152 ((x1 : Int32).toInt64) ((x2 : Int32).toInt64) ((x3 : Int32).toInt64) ((x4 : Int32).toInt64) σ
set_option maxRecDepth 100000 in
set_option maxHeartbeats 4000000 in
theorem ev_X10_put {l : Launch} {b : Nat} {cy : Nat → ClassId} {D : va_G} {d : Nat} {q : Nat} {n : Nat} {x1 : Int32} {x2 : Int32} {x3 : Int32} {x4 : Int32} {σ : Sg}  (hx : σ.1 3 1 = nI q) (hq : q < 20) (hz : σ.1 1 1 = nI n) (hn : n ≤ 12) : Es l b cy D (d + 4) yX10_put cX10_put (Option.some Jvm.ClassFile.FieldType.int) 5 [.ref (b + 0), .int (x1), .int (x2), .int (x3), .int (x4)] σ (some (.int (rX10_put q n x1 x2 x3 x4 σ))) (sX10_put q n x1 x2 x3 x4 σ) := by
  refine Ev.of (by decide) (Nat.le_of_ble_eq_true rfl) rfl ?_
  refine g_aload_n (pc' := 1) dX10_put_0 rfl 0 rfl rfl ?_
  refine g_getR (pc' := 4) (a := 152) dX10_put_1 rfl (PLk.lf fX10_60) o0 rfl ?_
  refine g_iload_n (pc' := 5) dX10_put_4 rfl 1 rfl rfl ?_
  refine g_i2l (pc' := 6) dX10_put_5 rfl ?_
  refine g_iload_n (pc' := 7) dX10_put_6 rfl 2 rfl rfl ?_
  refine g_i2l (pc' := 8) dX10_put_7 rfl ?_
  refine g_iload_n (pc' := 9) dX10_put_8 rfl 3 rfl rfl ?_
  refine g_i2l (pc' := 10) dX10_put_9 rfl ?_
  refine g_iload (pc' := 12) dX10_put_10 rfl 4 rfl ?_
  refine g_i2l (pc' := 13) dX10_put_12 rfl ?_
  refine g_callv (pc' := 16) dX10_put_13 rfl mX10_96 (ev_X6_set (k := 152) (x1 := (x1 : Int32).toInt64) (x2 := (x2 : Int32).toInt64) (x3 := (x3 : Int32).toInt64) (x4 := (x4 : Int32).toInt64) (σ := σ) o152 (d := d + 3)) o152 rfl (rm_ok (by omega) (by decide)) ⟨rfl, rfl⟩ ⟨Nat.zero_le _, Nat.zero_le _⟩ rfl rfl (Nat.le_of_ble_eq_true rfl) ?_
  refine g_aload_n (pc' := 17) dX10_put_16 rfl 0 rfl rfl ?_
  refine g_getR (pc' := 20) (a := 152) dX10_put_17 rfl (PLk.lf fX10_60) o0 rfl ?_
  refine g_callr (pc' := 23) dX10_put_20 rfl mX10_100 (ev_X6_isWithinBounds (k := 152) (σ := sX6_set 152 ((x1 : Int32).toInt64) ((x2 : Int32).toInt64) ((x3 : Int32).toInt64) ((x4 : Int32).toInt64) σ) o152 (d := d + 2)) o152 rfl (rm_ok (by omega) (by decide)) ⟨rfl, rfl⟩ ⟨Nat.zero_le _, Nat.zero_le _⟩ rfl rfl (Nat.le_of_ble_eq_true rfl) ?_
  refine g_ifb_ne (pc' := 26) (tgt := 29) dX10_put_23 rfl (by decide) (fun (c1 : (rX6_isWithinBounds 152 (sX6_set 152 ((x1 : Int32).toInt64) ((x2 : Int32).toInt64) ((x3 : Int32).toInt64) ((x4 : Int32).toInt64) σ)) = true) => ?_) (fun (c1 : (rX6_isWithinBounds 152 (sX6_set 152 ((x1 : Int32).toInt64) ((x2 : Int32).toInt64) ((x3 : Int32).toInt64) ((x4 : Int32).toInt64) σ)) = false) => ?_)
  · refine g_aload_n (pc' := 30) dX10_put_29 rfl 0 rfl rfl ?_
    refine g_getR (pc' := 33) (a := 152) dX10_put_30 rfl (PLk.lf fX10_60) o0 rfl ?_
    refine g_callr (pc' := 36) dX10_put_33 rfl mX10_103 (ev_X6_hasAreaOne (k := 152) (σ := sX6_set 152 ((x1 : Int32).toInt64) ((x2 : Int32).toInt64) ((x3 : Int32).toInt64) ((x4 : Int32).toInt64) σ) o152 (d := d + 3)) o152 rfl (rm_ok (by omega) (by decide)) ⟨rfl, rfl⟩ ⟨Nat.zero_le _, Nat.zero_le _⟩ rfl rfl (Nat.le_of_ble_eq_true rfl) ?_
    refine g_ifb_ne (pc' := 39) (tgt := 42) dX10_put_36 rfl (by decide) (fun (c2 : (rX6_hasAreaOne 152 (sX6_set 152 ((x1 : Int32).toInt64) ((x2 : Int32).toInt64) ((x3 : Int32).toInt64) ((x4 : Int32).toInt64) σ)) = true) => ?_) (fun (c2 : (rX6_hasAreaOne 152 (sX6_set 152 ((x1 : Int32).toInt64) ((x2 : Int32).toInt64) ((x3 : Int32).toInt64) ((x4 : Int32).toInt64) σ)) = false) => ?_)
    · refine g_aload_n (pc' := 43) dX10_put_42 rfl 0 rfl rfl ?_
      refine g_getR (pc' := 46) (a := 1) dX10_put_43 rfl (PLk.lf fX10_10) o0 rfl ?_
      refine g_callr (pc' := 49) dX10_put_46 rfl mX10_82 (ev_X5_isFull (k := 1) (c := 2) (σ := sX6_set 152 ((x1 : Int32).toInt64) ((x2 : Int32).toInt64) ((x3 : Int32).toInt64) ((x4 : Int32).toInt64) σ) sf1 (d := d + 3)) o1 rfl (rm_ok (by omega) (by decide)) ⟨rfl, rfl⟩ ⟨Nat.zero_le _, Nat.zero_le _⟩ rfl rfl (Nat.le_of_ble_eq_true rfl) ?_
      refine g_ifb_eq (pc' := 52) (tgt := 55) dX10_put_49 rfl (by decide) (fun (c3 : (rX5_isFull 1 2 (sX6_set 152 ((x1 : Int32).toInt64) ((x2 : Int32).toInt64) ((x3 : Int32).toInt64) ((x4 : Int32).toInt64) σ)) = false) => ?_) (fun (c3 : (rX5_isFull 1 2 (sX6_set 152 ((x1 : Int32).toInt64) ((x2 : Int32).toInt64) ((x3 : Int32).toInt64) ((x4 : Int32).toInt64) σ)) = true) => ?_)
      · refine g_aload_n (pc' := 56) dX10_put_55 rfl 0 rfl rfl ?_
        refine g_aload_n (pc' := 57) dX10_put_56 rfl 0 rfl rfl ?_
        refine g_getR (pc' := 60) (a := 152) dX10_put_57 rfl (PLk.lf fX10_60) o0 rfl ?_
        refine g_callr (pc' := 63) dX10_put_60 rfl mX10_90 (ev_X10_place (i := 152) (q := q) (n := n) (σ := sX6_set 152 ((x1 : Int32).toInt64) ((x2 : Int32).toInt64) ((x3 : Int32).toInt64) ((x4 : Int32).toInt64) σ) o152 hx hq hz (nfull hz hn c3) (d := d)) o0 rfl (rm_ok (by omega) (by decide)) ⟨rfl, rfl⟩ ⟨Nat.zero_le _, Nat.zero_le _⟩ rfl rfl (Nat.le_of_ble_eq_true rfl) ?_
        exact g_iret dX10_put_63 rfl ⟨rfl, rfl⟩ (by simp only [rX10_put, sX10_put, if_pos c1, if_pos c2, if_neg (bf c3), bI_t, bI_f])
      · refine g_ldc (pc' := 54) dX10_put_52 rfl kX10_73 ?_
        exact g_iret dX10_put_54 rfl ⟨rfl, rfl⟩ (by simp only [rX10_put, sX10_put, if_pos c1, if_pos c2, if_pos c3, bI_t, bI_f])
    · refine g_ldc (pc' := 41) dX10_put_39 rfl kX10_106 ?_
      exact g_iret dX10_put_41 rfl ⟨rfl, rfl⟩ (by simp only [rX10_put, sX10_put, if_pos c1, if_neg (bf c2), bI_t, bI_f])
  · refine g_ldc (pc' := 28) dX10_put_26 rfl kX10_68 ?_
    exact g_iret dX10_put_28 rfl ⟨rfl, rfl⟩ (by simp only [rX10_put, sX10_put, if_neg (bf c1), bI_t, bI_f])
