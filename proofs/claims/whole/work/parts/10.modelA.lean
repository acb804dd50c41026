/-! ===== numbers ===== -/
theorem sw_out_1_5 {x : Int32} (h1 : ¬ x = 1) (h2 : ¬ x = 2) (h3 : ¬ x = 3) (h4 : ¬ x = 4) (h5 : ¬ x = 5) : x.toInt < 1 ∨ 5 < x.toInt := by
  have g1 : ¬ x.toInt = 1 := fun e => h1 (Int32.toInt_inj.mp e)
  have g2 : ¬ x.toInt = 2 := fun e => h2 (Int32.toInt_inj.mp e)
  have g3 : ¬ x.toInt = 3 := fun e => h3 (Int32.toInt_inj.mp e)
  have g4 : ¬ x.toInt = 4 := fun e => h4 (Int32.toInt_inj.mp e)
  have g5 : ¬ x.toInt = 5 := fun e => h5 (Int32.toInt_inj.mp e)
  omega
theorem sw_out_1_4 {x : Int32} (h1 : ¬ x = 1) (h2 : ¬ x = 2) (h3 : ¬ x = 3) (h4 : ¬ x = 4) : x.toInt < 1 ∨ 4 < x.toInt := by
  have g1 : ¬ x.toInt = 1 := fun e => h1 (Int32.toInt_inj.mp e)
  have g2 : ¬ x.toInt = 2 := fun e => h2 (Int32.toInt_inj.mp e)
  have g3 : ¬ x.toInt = 3 := fun e => h3 (Int32.toInt_inj.mp e)
  have g4 : ¬ x.toInt = 4 := fun e => h4 (Int32.toInt_inj.mp e)
  omega
theorem sw_out_0_4 {x : Int32} (h0 : ¬ x = 0) (h1 : ¬ x = 1) (h2 : ¬ x = 2) (h3 : ¬ x = 3) (h4 : ¬ x = 4) : x.toInt < 0 ∨ 4 < x.toInt := by
  have g0 : ¬ x.toInt = 0 := fun e => h0 (Int32.toInt_inj.mp e)
  have g1 : ¬ x.toInt = 1 := fun e => h1 (Int32.toInt_inj.mp e)
  have g2 : ¬ x.toInt = 2 := fun e => h2 (Int32.toInt_inj.mp e)
  have g3 : ¬ x.toInt = 3 := fun e => h3 (Int32.toInt_inj.mp e)
  have g4 : ¬ x.toInt = 4 := fun e => h4 (Int32.toInt_inj.mp e)
  omega
theorem sw_out_0_3 {x : Int32} (h0 : ¬ x = 0) (h1 : ¬ x = 1) (h2 : ¬ x = 2) (h3 : ¬ x = 3) : x.toInt < 0 ∨ 3 < x.toInt := by
  have g0 : ¬ x.toInt = 0 := fun e => h0 (Int32.toInt_inj.mp e)
  have g1 : ¬ x.toInt = 1 := fun e => h1 (Int32.toInt_inj.mp e)
  have g2 : ¬ x.toInt = 2 := fun e => h2 (Int32.toInt_inj.mp e)
  have g3 : ¬ x.toInt = 3 := fun e => h3 (Int32.toInt_inj.mp e)
  omega
theorem ix_it : ∀ p : Fin 8, ∀ w : Fin 7, vp_in (2 + 7 * nI p.val + nI w.val) 58 ∧ (2 + 7 * nI p.val + nI w.val).toNatClampNeg = 2 + 7 * p.val + w.val := by
  have key : ∀ p : Fin 8, ∀ w : Fin 7, (¬ ((2 + 7 * nI p.val + nI w.val) < 0 ∨ 58 ≤ (2 + 7 * nI p.val + nI w.val).toNatClampNeg)) ∧ (2 + 7 * nI p.val + nI w.val).toNatClampNeg = 2 + 7 * p.val + w.val := by decide +kernel
  exact key
theorem ix_in {p w : Nat} (h1 : p < 8) (h2 : w < 7) : vp_in (2 + 7 * nI p + nI w) 58 := (ix_it ⟨p, h1⟩ ⟨w, h2⟩).1
theorem ix_at {p w : Nat} (h1 : p < 8) (h2 : w < 7) : (2 + 7 * nI p + nI w).toNatClampNeg = 2 + 7 * p + w := (ix_it ⟨p, h1⟩ ⟨w, h2⟩).2
theorem f_in : ∀ n : Fin 7, (¬ ((-1000000001 - (-1000000001 - nI n.val)) < 0 ∨ 7 ≤ (-1000000001 - (-1000000001 - nI n.val)).toNatClampNeg)) ∧ (-1000000001 - (-1000000001 - nI n.val)).toNatClampNeg = n.val := by decide +kernel
/-- a finding n (0 BEYOND .. 6 SIZE): its number; the model's state with one more of it -/
def fnd (n : Nat) : Int32 := -1000000001 - nI n
theorem f_i {n : Nat} (h : n < 7) : vp_in (-1000000001 - fnd n) 7 := (f_in ⟨n, h⟩).1
theorem f_a {n : Nat} (h : n < 7) : (-1000000001 - fnd n).toNatClampNeg = n := (f_in ⟨n, h⟩).2
def fR (r : Nat → Nat → Int32) (n : Nat) : Nat → Nat → Int32 := va_up r 3 (upd (r 3) n (r 3 n + 1))
theorem n8 : ∀ n : Fin 9, (nI n.val - 1).toInt = (n.val : Int) - 1 := by decide +kernel
theorem isP_iff {n : Nat} (h8 : n ≤ 8) {p : Int32} : (0 ≤ p ∧ p ≤ nI n - 1) ↔ ∃ P, P < n ∧ p = nI P := by
  rw [fa_le, fa_le, show (nI n - 1).toInt = (n : Int) - 1 from n8 ⟨n, by omega⟩]
  constructor
  · rintro ⟨h1, h2⟩
    have h1' : 0 ≤ p.toInt := h1
    refine ⟨p.toInt.toNat, by omega, Int32.toInt_inj.mp ?_⟩
    rw [nI_toInt (by omega)]
    omega
  · rintro ⟨P, h1, rfl⟩
    rw [nI_toInt (by omega)]
    constructor
    · show (0 : Int) ≤ _; omega
    · omega
theorem nI_ge' {n j : Nat} (h : j < n) (h8 : n < 2147483648) : ¬ nI n ≤ nI j := nI_ge h h8

set_option maxHeartbeats 4000000 in
set_option maxRecDepth 100000 in
theorem c_X6_inL {l : Launch} {X : Gx} {f : Hp} {v : Int64} {a b : Int32} : Ci l X yX6_in cX6_in 4 (some .boolean) (rmk 0 0) [.long v, .int a, .int b] (f) (fun z g => ((a.toInt64 ≤ v ∧ v ≤ b.toInt64) ∧ z = 1 ∨ ¬ (a.toInt64 ≤ v ∧ v ≤ b.toInt64) ∧ z = 0) ∧ g = f) := by
  refine ct_z (own := RX6) (lv := [some (.long v), none, some (.int a), some (.int b)]) (by decide) rfl (Nat.le_of_ble_eq_true rfl) (Nat.le_of_ble_eq_true rfl) rfl (fun C hC hR => ?_)
  refine v_lload_n hC rfl dX6_in_0 (q := 1) rfl ?_
  refine v_iload_n hC rfl dX6_in_1 (q := 2) rfl ?_
  refine v_i2l hC dX6_in_2 (q := 3) rfl ?_
  refine v_lcmp hC dX6_in_3 (q := 4) rfl ?_
  refine v_if_lt hC dX6_in_4 (t := 18) rfl (q := 7) rfl (fun h4 => ?_) (fun h4 => ?_)
  · refine v_iconst hC (v := 0) rfl dX6_in_18 (q := 19) rfl ?_
    refine hR _ _ _ _ ?_ (by first | rfl | decide | assumption) dX6_in_19
    first | exact ⟨Or.inr ⟨fun z => Int64.not_lt.mpr z.1 ((lg_cmp_lt _ _).mp h4), rfl⟩, rfl⟩ | exact ⟨Or.inr ⟨fun z => Int64.not_lt.mpr z.2 ((lg_cmp_gt _ _).mp h11), rfl⟩, rfl⟩
  · refine v_lload_n hC rfl dX6_in_7 (q := 8) rfl ?_
    refine v_iload_n hC rfl dX6_in_8 (q := 9) rfl ?_
    refine v_i2l hC dX6_in_9 (q := 10) rfl ?_
    refine v_lcmp hC dX6_in_10 (q := 11) rfl ?_
    refine v_if_gt hC dX6_in_11 (t := 18) rfl (q := 14) rfl (fun h11 => ?_) (fun h11 => ?_)
    · refine v_iconst hC (v := 0) rfl dX6_in_18 (q := 19) rfl ?_
      refine hR _ _ _ _ ?_ (by first | rfl | decide | assumption) dX6_in_19
      first | exact ⟨Or.inr ⟨fun z => Int64.not_lt.mpr z.1 ((lg_cmp_lt _ _).mp h4), rfl⟩, rfl⟩ | exact ⟨Or.inr ⟨fun z => Int64.not_lt.mpr z.2 ((lg_cmp_gt _ _).mp h11), rfl⟩, rfl⟩
    · refine v_iconst hC (v := 1) rfl dX6_in_14 (q := 15) rfl ?_
      refine v_goto hC dX6_in_15 (t := 19) rfl ?_
      refine hR _ _ _ _ ?_ (by first | rfl | decide | assumption) dX6_in_19
      exact ⟨Or.inl ⟨⟨Int64.not_lt.mp (fun z => h4 ((lg_cmp_lt _ _).mpr z)), Int64.not_lt.mp (fun z => h11 ((lg_cmp_gt _ _).mpr z))⟩, rfl⟩, rfl⟩

set_option maxHeartbeats 4000000 in
set_option maxRecDepth 100000 in
theorem c_X6_in {l : Launch} {X : Gx} {f : Hp} {v a b : Int32} : Ci l X yX6_in cX6_in 4 (some .boolean) (rmk 0 0) [.long v.toInt64, .int a, .int b] (f) (fun z g => ((a ≤ v ∧ v ≤ b) ∧ z = 1 ∨ ¬ (a ≤ v ∧ v ≤ b) ∧ z = 0) ∧ g = f) := by
  refine ct_z (own := RX6) (lv := [some (.long v.toInt64), none, some (.int a), some (.int b)]) (by decide) rfl (Nat.le_of_ble_eq_true rfl) (Nat.le_of_ble_eq_true rfl) rfl (fun C hC hR => ?_)
  refine v_lload_n hC rfl dX6_in_0 (q := 1) rfl ?_
  refine v_iload_n hC rfl dX6_in_1 (q := 2) rfl ?_
  refine v_i2l hC dX6_in_2 (q := 3) rfl ?_
  refine v_lcmp hC dX6_in_3 (q := 4) rfl ?_
  refine v_if_lt hC dX6_in_4 (t := 18) rfl (q := 7) rfl (fun h4 => ?_) (fun h4 => ?_)
  · refine v_iconst hC (v := 0) rfl dX6_in_18 (q := 19) rfl ?_
    refine hR _ _ _ _ ?_ (by first | rfl | decide | assumption) dX6_in_19
    first | exact ⟨Or.inr ⟨fun z => Int64.not_lt.mpr ((fa_wide_le _ _).mpr z.1) ((lg_cmp_lt _ _).mp h4), rfl⟩, rfl⟩ | exact ⟨Or.inr ⟨fun z => Int64.not_lt.mpr ((fa_wide_le _ _).mpr z.2) ((lg_cmp_gt _ _).mp h11), rfl⟩, rfl⟩
  · refine v_lload_n hC rfl dX6_in_7 (q := 8) rfl ?_
    refine v_iload_n hC rfl dX6_in_8 (q := 9) rfl ?_
    refine v_i2l hC dX6_in_9 (q := 10) rfl ?_
    refine v_lcmp hC dX6_in_10 (q := 11) rfl ?_
    refine v_if_gt hC dX6_in_11 (t := 18) rfl (q := 14) rfl (fun h11 => ?_) (fun h11 => ?_)
    · refine v_iconst hC (v := 0) rfl dX6_in_18 (q := 19) rfl ?_
      refine hR _ _ _ _ ?_ (by first | rfl | decide | assumption) dX6_in_19
      first | exact ⟨Or.inr ⟨fun z => Int64.not_lt.mpr ((fa_wide_le _ _).mpr z.1) ((lg_cmp_lt _ _).mp h4), rfl⟩, rfl⟩ | exact ⟨Or.inr ⟨fun z => Int64.not_lt.mpr ((fa_wide_le _ _).mpr z.2) ((lg_cmp_gt _ _).mp h11), rfl⟩, rfl⟩
    · refine v_iconst hC (v := 1) rfl dX6_in_14 (q := 15) rfl ?_
      refine v_goto hC dX6_in_15 (t := 19) rfl ?_
      refine hR _ _ _ _ ?_ (by first | rfl | decide | assumption) dX6_in_19
      exact ⟨Or.inl ⟨⟨(fa_wide_le _ _).mp (Int64.not_lt.mp (fun z => h4 ((lg_cmp_lt _ _).mpr z))), (fa_wide_le _ _).mp (Int64.not_lt.mp (fun z => h11 ((lg_cmp_gt _ _).mpr z)))⟩, rfl⟩, rfl⟩

set_option maxHeartbeats 4000000 in
set_option maxRecDepth 100000 in
theorem c_X6_held {l : Launch} {X : Gx} {f : Hp} {v a b : Int32} : Ci l X yX6_held cX6_held 3 (some .int) (rmk 0 0) [.int v, .int a, .int b] (f) (fun z g => z = held v a b ∧ g = f) := by
  refine ct_i (own := RX6) (lv := [some (.int v), some (.int a), some (.int b)]) (by decide) rfl (Nat.le_of_ble_eq_true rfl) (Nat.le_of_ble_eq_true rfl) rfl (fun C hC hR => ?_)
  refine v_iload_n hC rfl dX6_held_0 (q := 1) rfl ?_
  refine v_iload_n hC rfl dX6_held_1 (q := 2) rfl ?_
  refine v_icmp_ge hC dX6_held_2 (t := 9) rfl (q := 5) rfl (fun h2 => ?_) (fun h2 => ?_)
  · refine v_iload_n hC rfl dX6_held_9 (q := 10) rfl ?_
    refine v_iload_n hC rfl dX6_held_10 (q := 11) rfl ?_
    refine v_icmp_le hC dX6_held_11 (t := 18) rfl (q := 14) rfl (fun h11 => ?_) (fun h11 => ?_)
    · refine v_iload_n hC rfl dX6_held_18 (q := 19) rfl ?_
      refine hR _ _ _ _ ?_ dX6_held_19
      refine ⟨?_, rfl⟩
      simp only [held]
      first | (rw [if_pos (Int32.not_le.mp h2)]; done) | (rw [if_neg (Int32.not_lt.mpr h2), if_pos (Int32.not_le.mp h11)]; done) | (rw [if_neg (Int32.not_lt.mpr h2), if_neg (Int32.not_lt.mpr h11)]; done)
    · refine v_iload_n hC rfl dX6_held_14 (q := 15) rfl ?_
      refine v_goto hC dX6_held_15 (t := 19) rfl ?_
      refine hR _ _ _ _ ?_ dX6_held_19
      refine ⟨?_, rfl⟩
      simp only [held]
      first | (rw [if_pos (Int32.not_le.mp h2)]; done) | (rw [if_neg (Int32.not_lt.mpr h2), if_pos (Int32.not_le.mp h11)]; done) | (rw [if_neg (Int32.not_lt.mpr h2), if_neg (Int32.not_lt.mpr h11)]; done)
  · refine v_iload_n hC rfl dX6_held_5 (q := 6) rfl ?_
    refine v_goto hC dX6_held_6 (t := 19) rfl ?_
    refine hR _ _ _ _ ?_ dX6_held_19
    refine ⟨?_, rfl⟩
    simp only [held]
    first | (rw [if_pos (Int32.not_le.mp h2)]; done) | (rw [if_neg (Int32.not_lt.mpr h2), if_pos (Int32.not_le.mp h11)]; done) | (rw [if_neg (Int32.not_lt.mpr h2), if_neg (Int32.not_lt.mpr h11)]; done)

set_option maxHeartbeats 4000000 in
set_option maxRecDepth 100000 in
theorem c_X6_finds {l : Launch} {X : Gx} {S : CS} {i m : Nat → Int32} {r : Nat → Nat → Int32} {c : Nat → Int64} {n : Nat} (hn : n < 7) : Ci l X yX6_finds cX6_finds 2 (some .int) (rmk 0 0) [.ref (ga X 47), .int (fnd n)] (hp X S (i, m, r, c)) (fun z g => z = fnd n ∧ g = hp X S (i, m, fR r n, c)) := by
  refine ct_i (own := RX6) (lv := [some (.ref (ga X 47)), some (.int (fnd n))]) (by decide) rfl (Nat.le_of_ble_eq_true rfl) (Nat.le_of_ble_eq_true rfl) rfl (fun C hC hR => ?_)
  refine v_aload_n hC rfl dX6_finds_0 (q := 1) rfl ?_
  refine v_get hC fl_X6_19 (k := 47) (by decide) hp_47 rfl dX6_finds_1 (q := 4) rfl ?_
  refine v_ldc hC wk_X6_35 dX6_finds_4 (q := 6) rfl ?_
  refine v_iload_n hC rfl dX6_finds_6 (q := 7) rfl ?_
  refine v_isub hC dX6_finds_7 (q := 8) rfl ?_
  refine v_dup2 hC rfl rfl dX6_finds_8 (q := 9) rfl ?_
  refine v_iald hC (k := 51) (by decide) hp_51 (f_i hn) (f_a hn) dX6_finds_9 (q := 10) rfl ?_
  refine v_iconst hC (v := 1) rfl dX6_finds_10 (q := 11) rfl ?_
  refine v_iadd hC dX6_finds_11 (q := 12) rfl ?_
  refine v_iast hC (k := 51) (by decide) hp_51 (f_i hn) (f_a hn) (hpr_3 _) dX6_finds_12 (q := 13) rfl ?_
  refine v_iload_n hC rfl dX6_finds_13 (q := 14) rfl ?_
  refine hR _ _ _ _ ?_ dX6_finds_14
  exact ⟨rfl, rfl⟩

set_option maxHeartbeats 4000000 in
set_option maxRecDepth 100000 in
theorem c_X6_it {l : Launch} {X : Gx} {S : CS} {i m : Nat → Int32} {r : Nat → Nat → Int32} {c : Nat → Int64} {p w : Nat} (h1 : p < 8) (h2 : w < 7) : Ci l X yX6_it cX6_it 3 (some .int) (rmk 0 0) [.ref (ga X 47), .int (nI p), .int (nI w)] (hp X S (i, m, r, c)) (fun z g => z = pv m p w ∧ g = hp X S (i, m, r, c)) := by
  refine ct_i (own := RX6) (lv := [some (.ref (ga X 47)), some (.int (nI p)), some (.int (nI w))]) (by decide) rfl (Nat.le_of_ble_eq_true rfl) (Nat.le_of_ble_eq_true rfl) rfl (fun C hC hR => ?_)
  refine v_aload_n hC rfl dX6_it_0 (q := 1) rfl ?_
  refine v_get hC fl_X6_9 (k := 47) (by decide) hp_47 rfl dX6_it_1 (q := 4) rfl ?_
  refine v_iconst hC (v := 2) rfl dX6_it_4 (q := 5) rfl ?_
  refine v_bipush hC (v := 7) rfl dX6_it_5 (q := 7) rfl ?_
  refine v_iload_n hC rfl dX6_it_7 (q := 8) rfl ?_
  refine v_imul hC dX6_it_8 (q := 9) rfl ?_
  refine v_iadd hC dX6_it_9 (q := 10) rfl ?_
  refine v_iload_n hC rfl dX6_it_10 (q := 11) rfl ?_
  refine v_iadd hC dX6_it_11 (q := 12) rfl ?_
  refine v_iald hC (k := 48) (by decide) hp_48 (ix_in h1 h2) (ix_at h1 h2) dX6_it_12 (q := 13) rfl ?_
  refine hR _ _ _ _ ?_ dX6_it_13
  exact ⟨(pv_lt h2).symm, rfl⟩

set_option maxHeartbeats 4000000 in
set_option maxRecDepth 100000 in
theorem c_X6_put {l : Launch} {X : Gx} {S : CS} {i m : Nat → Int32} {r : Nat → Nat → Int32} {c : Nat → Int64} {p w : Nat} {v : Int32} (h1 : p < 8) (h2 : w < 7) : Cv l X yX6_put cX6_put 4 (none) (rmk 0 0) [.ref (ga X 47), .int (nI p), .int (nI w), .int v] (hp X S (i, m, r, c)) (fun g => g = hp X S (i, pu m p w v, r, c)) := by
  refine ct_v (own := RX6) (lv := [some (.ref (ga X 47)), some (.int (nI p)), some (.int (nI w)), some (.int v)]) (by decide) rfl (Nat.le_of_ble_eq_true rfl) (Nat.le_of_ble_eq_true rfl) rfl (fun C hC hR => ?_)
  refine v_aload_n hC rfl dX6_put_0 (q := 1) rfl ?_
  refine v_get hC fl_X6_9 (k := 47) (by decide) hp_47 rfl dX6_put_1 (q := 4) rfl ?_
  refine v_iconst hC (v := 2) rfl dX6_put_4 (q := 5) rfl ?_
  refine v_bipush hC (v := 7) rfl dX6_put_5 (q := 7) rfl ?_
  refine v_iload_n hC rfl dX6_put_7 (q := 8) rfl ?_
  refine v_imul hC dX6_put_8 (q := 9) rfl ?_
  refine v_iadd hC dX6_put_9 (q := 10) rfl ?_
  refine v_iload_n hC rfl dX6_put_10 (q := 11) rfl ?_
  refine v_iadd hC dX6_put_11 (q := 12) rfl ?_
  refine v_iload_n hC rfl dX6_put_12 (q := 13) rfl ?_
  refine v_iast hC (k := 48) (by decide) hp_48 (ix_in h1 h2) (ix_at h1 h2) (hpr_0 _) dX6_put_13 (q := 14) rfl ?_
  refine hR _ _ _ ?_ dX6_put_14
  rfl

set_option maxHeartbeats 4000000 in
set_option maxRecDepth 100000 in
theorem c_X6_isPerson {l : Launch} {X : Gx} {S : CS} {i m : Nat → Int32} {r : Nat → Nat → Int32} {c : Nat → Int64} {n : Nat} (hN : m 1 = nI n) (h8 : n ≤ 8) {p : Int32} : Ci l X yX6_isPerson cX6_isPerson 2 (some .boolean) (rmk 1 23) [.ref (ga X 47), .int p] (hp X S (i, m, r, c)) (fun z g => ((∃ P, P < n ∧ p = nI P) ∧ z = 1 ∨ ¬ (∃ P, P < n ∧ p = nI P) ∧ z = 0) ∧ g = hp X S (i, m, r, c)) := by
  refine ct_z (own := RX6) (lv := [some (.ref (ga X 47)), some (.int p)]) (by decide) rfl (Nat.le_of_ble_eq_true rfl) (Nat.le_of_ble_eq_true rfl) rfl (fun C hC hR => ?_)
  refine v_iload_n hC rfl dX6_isPerson_0 (q := 1) rfl ?_
  refine v_i2l hC dX6_isPerson_1 (q := 2) rfl ?_
  refine v_iconst hC (v := 0) rfl dX6_isPerson_2 (q := 3) rfl ?_
  refine v_aload_n hC rfl dX6_isPerson_3 (q := 4) rfl ?_
  refine v_get hC fl_X6_9 (k := 47) (by decide) hp_47 rfl dX6_isPerson_4 (q := 7) rfl ?_
  refine v_iconst hC (v := 1) rfl dX6_isPerson_7 (q := 8) rfl ?_
  refine v_iald hC (k := 48) (by decide) hp_48 (vp_l (by decide)) (j := 1) rfl dX6_isPerson_8 (q := 9) rfl ?_
  refine v_iconst hC (v := 1) rfl dX6_isPerson_9 (q := 10) rfl ?_
  refine v_isub hC dX6_isPerson_10 (q := 11) rfl ?_
  refine v_Si hC lkS_X6_41 c_X6_in rfl (by decide) rfl (Nat.le_of_ble_eq_true rfl) dX6_isPerson_11 (q := 14) rfl ?_
  rintro _ _ ⟨⟨hc11, rfl⟩ | ⟨hc11, rfl⟩, rfl⟩
  · refine hR _ _ _ _ ?_ (by first | rfl | decide | assumption) dX6_isPerson_14
    rw [hN, isP_iff h8] at hc11
    exact ⟨Or.inl ⟨hc11, rfl⟩, rfl⟩
  · refine hR _ _ _ _ ?_ (by first | rfl | decide | assumption) dX6_isPerson_14
    rw [hN, isP_iff h8] at hc11
    exact ⟨Or.inr ⟨hc11, rfl⟩, rfl⟩

set_option maxHeartbeats 4000000 in
set_option maxRecDepth 100000 in
theorem c_X6_grinds {l : Launch} {X : Gx} {S : CS} {i m : Nat → Int32} {r : Nat → Nat → Int32} {c : Nat → Int64} {p : Nat} (h1 : p < 8) : Ci l X yX6_grinds cX6_grinds 4 (some .int) (rmk 1 22) [.ref (ga X 47), .int (nI p)] (hp X S (i, m, r, c)) (fun z g => z = grindF (pv m p) ∧ g = hp X S (i, m, r, c)) := by
  refine ct_i (own := RX6) (lv := [some (.ref (ga X 47)), some (.int (nI p)), none, none]) (by decide) rfl (Nat.le_of_ble_eq_true rfl) (Nat.le_of_ble_eq_true rfl) rfl (fun C hC hR => ?_)
  refine v_aload_n hC rfl dX6_grinds_0 (q := 1) rfl ?_
  refine v_iload_n hC rfl dX6_grinds_1 (q := 2) rfl ?_
  refine v_iconst hC (v := 1) rfl dX6_grinds_2 (q := 3) rfl ?_
  refine v_Vi hC lkV_X6_49 (c_X6_it (w := 1) (by first | assumption | omega) (Nat.le_of_ble_eq_true rfl)) rfl (by decide) (k := 47) (by decide) hp_47 rfl rfl (Nat.le_of_ble_eq_true rfl) dX6_grinds_3 (q := 6) rfl ?_
  rintro _ _ ⟨rfl, rfl⟩
  refine v_istore_2 hC rfl dX6_grinds_6 (q := 7) rfl ?_
  refine v_iload_n hC rfl dX6_grinds_7 (q := 8) rfl ?_
  refine v_istore_3 hC rfl dX6_grinds_8 (q := 9) rfl ?_
  refine v_aload_n hC rfl dX6_grinds_9 (q := 10) rfl ?_
  refine v_iload_n hC rfl dX6_grinds_10 (q := 11) rfl ?_
  refine v_iconst hC (v := 0) rfl dX6_grinds_11 (q := 12) rfl ?_
  refine v_Vi hC lkV_X6_49 (c_X6_it (w := 0) (by first | assumption | omega) (Nat.le_of_ble_eq_true rfl)) rfl (by decide) (k := 47) (by decide) hp_47 rfl rfl (Nat.le_of_ble_eq_true rfl) dX6_grinds_12 (q := 15) rfl ?_
  rintro _ _ ⟨rfl, rfl⟩
  refine v_em 1 (fun hs15_0 => ?_) (fun hs15_0 => ?_)
  · refine v_tin hC dX6_grinds_15 (by decide) (by decide) rfl (t := 48) rfl ?_
    refine v_iload_n hC rfl dX6_grinds_48 (q := 49) rfl ?_
    refine v_bipush hC (v := 10) rfl dX6_grinds_49 (q := 51) rfl ?_
    refine v_iadd hC dX6_grinds_51 (q := 52) rfl ?_
    refine v_istore_3 hC rfl dX6_grinds_52 (q := 53) rfl ?_
    refine v_goto hC dX6_grinds_53 (t := 86) rfl ?_
    refine v_iload_n hC rfl dX6_grinds_86 (q := 87) rfl ?_
    refine v_iconst hC (v := 0) rfl dX6_grinds_87 (q := 88) rfl ?_
    refine v_bipush hC (v := 99) rfl dX6_grinds_88 (q := 90) rfl ?_
    refine v_Si hC lkS_X6_53 c_X6_held rfl (by decide) rfl (Nat.le_of_ble_eq_true rfl) dX6_grinds_90 (q := 93) rfl ?_
    rintro _ _ ⟨rfl, rfl⟩
    refine hR _ _ _ _ ?_ dX6_grinds_93
    refine ⟨?_, rfl⟩
    simp [grindF, *]
  refine v_em 2 (fun hs15_1 => ?_) (fun hs15_1 => ?_)
  · refine v_tin hC dX6_grinds_15 (by decide) (by decide) rfl (t := 56) rfl ?_
    refine v_iload_n hC rfl dX6_grinds_56 (q := 57) rfl ?_
    refine v_iconst hC (v := 2) rfl dX6_grinds_57 (q := 58) rfl ?_
    refine v_idiv hC (by decide) dX6_grinds_58 (q := 59) rfl ?_
    refine v_istore_3 hC rfl dX6_grinds_59 (q := 60) rfl ?_
    refine v_goto hC dX6_grinds_60 (t := 86) rfl ?_
    refine v_iload_n hC rfl dX6_grinds_86 (q := 87) rfl ?_
    refine v_iconst hC (v := 0) rfl dX6_grinds_87 (q := 88) rfl ?_
    refine v_bipush hC (v := 99) rfl dX6_grinds_88 (q := 90) rfl ?_
    refine v_Si hC lkS_X6_53 c_X6_held rfl (by decide) rfl (Nat.le_of_ble_eq_true rfl) dX6_grinds_90 (q := 93) rfl ?_
    rintro _ _ ⟨rfl, rfl⟩
    refine hR _ _ _ _ ?_ dX6_grinds_93
    refine ⟨?_, rfl⟩
    simp [grindF, *]
  refine v_em 3 (fun hs15_2 => ?_) (fun hs15_2 => ?_)
  · refine v_tin hC dX6_grinds_15 (by decide) (by decide) rfl (t := 63) rfl ?_
    refine v_iconst hC (v := 0) rfl dX6_grinds_63 (q := 64) rfl ?_
    refine v_istore_3 hC rfl dX6_grinds_64 (q := 65) rfl ?_
    refine v_goto hC dX6_grinds_65 (t := 86) rfl ?_
    refine v_iload_n hC rfl dX6_grinds_86 (q := 87) rfl ?_
    refine v_iconst hC (v := 0) rfl dX6_grinds_87 (q := 88) rfl ?_
    refine v_bipush hC (v := 99) rfl dX6_grinds_88 (q := 90) rfl ?_
    refine v_Si hC lkS_X6_53 c_X6_held rfl (by decide) rfl (Nat.le_of_ble_eq_true rfl) dX6_grinds_90 (q := 93) rfl ?_
    rintro _ _ ⟨rfl, rfl⟩
    refine hR _ _ _ _ ?_ dX6_grinds_93
    refine ⟨?_, rfl⟩
    simp [grindF, *]
  refine v_em 4 (fun hs15_3 => ?_) (fun hs15_3 => ?_)
  · refine v_tin hC dX6_grinds_15 (by decide) (by decide) rfl (t := 68) rfl ?_
    refine v_iload_n hC rfl dX6_grinds_68 (q := 69) rfl ?_
    refine v_bipush hC (v := 20) rfl dX6_grinds_69 (q := 71) rfl ?_
    refine v_iadd hC dX6_grinds_71 (q := 72) rfl ?_
    refine v_istore_3 hC rfl dX6_grinds_72 (q := 73) rfl ?_
    refine v_goto hC dX6_grinds_73 (t := 86) rfl ?_
    refine v_iload_n hC rfl dX6_grinds_86 (q := 87) rfl ?_
    refine v_iconst hC (v := 0) rfl dX6_grinds_87 (q := 88) rfl ?_
    refine v_bipush hC (v := 99) rfl dX6_grinds_88 (q := 90) rfl ?_
    refine v_Si hC lkS_X6_53 c_X6_held rfl (by decide) rfl (Nat.le_of_ble_eq_true rfl) dX6_grinds_90 (q := 93) rfl ?_
    rintro _ _ ⟨rfl, rfl⟩
    refine hR _ _ _ _ ?_ dX6_grinds_93
    refine ⟨?_, rfl⟩
    simp [grindF, *]
  refine v_em 5 (fun hs15_4 => ?_) (fun hs15_4 => ?_)
  · refine v_tin hC dX6_grinds_15 (by decide) (by decide) rfl (t := 76) rfl ?_
    refine v_iload_n hC rfl dX6_grinds_76 (q := 77) rfl ?_
    refine v_iconst hC (v := 2) rfl dX6_grinds_77 (q := 78) rfl ?_
    refine v_idiv hC (by decide) dX6_grinds_78 (q := 79) rfl ?_
    refine v_bipush hC (v := 20) rfl dX6_grinds_79 (q := 81) rfl ?_
    refine v_iadd hC dX6_grinds_81 (q := 82) rfl ?_
    refine v_istore_3 hC rfl dX6_grinds_82 (q := 83) rfl ?_
    refine v_goto hC dX6_grinds_83 (t := 86) rfl ?_
    refine v_iload_n hC rfl dX6_grinds_86 (q := 87) rfl ?_
    refine v_iconst hC (v := 0) rfl dX6_grinds_87 (q := 88) rfl ?_
    refine v_bipush hC (v := 99) rfl dX6_grinds_88 (q := 90) rfl ?_
    refine v_Si hC lkS_X6_53 c_X6_held rfl (by decide) rfl (Nat.le_of_ble_eq_true rfl) dX6_grinds_90 (q := 93) rfl ?_
    rintro _ _ ⟨rfl, rfl⟩
    refine hR _ _ _ _ ?_ dX6_grinds_93
    refine ⟨?_, rfl⟩
    simp [grindF, *]
  refine v_tout hC dX6_grinds_15 (sw_out_1_5 hs15_0 hs15_1 hs15_2 hs15_3 hs15_4) (t := 86) rfl ?_
  refine v_iload_n hC rfl dX6_grinds_86 (q := 87) rfl ?_
  refine v_iconst hC (v := 0) rfl dX6_grinds_87 (q := 88) rfl ?_
  refine v_bipush hC (v := 99) rfl dX6_grinds_88 (q := 90) rfl ?_
  refine v_Si hC lkS_X6_53 c_X6_held rfl (by decide) rfl (Nat.le_of_ble_eq_true rfl) dX6_grinds_90 (q := 93) rfl ?_
  rintro _ _ ⟨rfl, rfl⟩
  refine hR _ _ _ _ ?_ dX6_grinds_93
  refine ⟨?_, rfl⟩
  simp [grindF, *]

set_option maxHeartbeats 4000000 in
set_option maxRecDepth 100000 in
theorem c_X6_looksAt {l : Launch} {X : Gx} {S : CS} {i m : Nat → Int32} {r : Nat → Nat → Int32} {c : Nat → Int64} {p : Nat} (h1 : p < 8) {o : Int32} : Ci l X yX6_looksAt cX6_looksAt 7 (some .int) (rmk 1 22) [.ref (ga X 47), .int (nI p), .int o] (hp X S (i, m, r, c)) (fun z g => z = lookF (nI p) (pv m p) o ∧ g = hp X S (i, m, r, c)) := by
  refine ct_i (own := RX6) (lv := [some (.ref (ga X 47)), some (.int (nI p)), some (.int o), none, none, none, none]) (by decide) rfl (Nat.le_of_ble_eq_true rfl) (Nat.le_of_ble_eq_true rfl) rfl (fun C hC hR => ?_)
  have J90 : ∀ hup : ¬ pv m p 3 = 1, ∀ z, z = briF (nI p) (pv m p) o → V l X (rmk 1 22) C (hp X S (i, m, r, c)) 90 [some (.ref (ga X 47)), some (.int (nI p)), some (.int o), some (.int (pv m p 5 - pv m p 6)), some (.int (plainF (pv m p) o)), some (.int (broF (nI p) (pv m p) o)), none] [.int z] := by
    rintro hup z rfl
    refine v_istore_6 hC rfl dX6_looksAt_90 (q := 92) rfl ?_
    refine v_aload_n hC rfl dX6_looksAt_92 (q := 93) rfl ?_
    refine v_iload_n hC rfl dX6_looksAt_93 (q := 94) rfl ?_
    refine v_iconst hC (v := 0) rfl dX6_looksAt_94 (q := 95) rfl ?_
    refine v_Vi hC lkV_X6_49 (c_X6_it (w := 0) (by first | assumption | omega) (Nat.le_of_ble_eq_true rfl)) rfl (by decide) (k := 47) (by decide) hp_47 rfl rfl (Nat.le_of_ble_eq_true rfl) dX6_looksAt_95 (q := 98) rfl ?_
    rintro _ _ ⟨rfl, rfl⟩
    refine v_em 1 (fun hs98_0 => ?_) (fun hs98_0 => ?_)
    · refine v_tin hC dX6_looksAt_98 (by decide) (by decide) rfl (t := 132) rfl ?_
      refine v_iload hC rfl dX6_looksAt_132 (q := 134) rfl ?_
      refine hR _ _ _ _ ?_ dX6_looksAt_134
      refine ⟨?_, rfl⟩
      first | (simp [lookF, *]; done) | (simp only [lookF]; grind)
    refine v_em 2 (fun hs98_1 => ?_) (fun hs98_1 => ?_)
    · refine v_tin hC dX6_looksAt_98 (by decide) (by decide) rfl (t := 135) rfl ?_
      refine v_iload hC rfl dX6_looksAt_135 (q := 137) rfl ?_
      refine hR _ _ _ _ ?_ dX6_looksAt_137
      refine ⟨?_, rfl⟩
      first | (simp [lookF, *]; done) | (simp only [lookF]; grind)
    refine v_em 3 (fun hs98_2 => ?_) (fun hs98_2 => ?_)
    · refine v_tin hC dX6_looksAt_98 (by decide) (by decide) rfl (t := 138) rfl ?_
      refine v_bipush hC (v := 10) rfl dX6_looksAt_138 (q := 140) rfl ?_
      refine hR _ _ _ _ ?_ dX6_looksAt_140
      refine ⟨?_, rfl⟩
      first | (simp [lookF, *]; done) | (simp only [lookF]; grind)
    refine v_em 4 (fun hs98_3 => ?_) (fun hs98_3 => ?_)
    · refine v_tin hC dX6_looksAt_98 (by decide) (by decide) rfl (t := 141) rfl ?_
      refine v_iload hC rfl dX6_looksAt_141 (q := 143) rfl ?_
      refine v_iload_n hC rfl dX6_looksAt_143 (q := 144) rfl ?_
      refine v_iload_n hC rfl dX6_looksAt_144 (q := 145) rfl ?_
      refine v_iconst hC (v := 1) rfl dX6_looksAt_145 (q := 146) rfl ?_
      refine v_iadd hC dX6_looksAt_146 (q := 147) rfl ?_
      refine v_icmp_ne hC dX6_looksAt_147 (t := 154) rfl (q := 150) rfl (fun h147 => ?_) (fun h147 => ?_)
      · refine v_iconst hC (v := 0) rfl dX6_looksAt_154 (q := 155) rfl ?_
        refine v_iadd hC dX6_looksAt_155 (q := 156) rfl ?_
        refine hR _ _ _ _ ?_ dX6_looksAt_156
        refine ⟨?_, rfl⟩
        first | (simp [lookF, *]; done) | (simp only [lookF]; grind)
      · refine v_iconst hC (v := 5) rfl dX6_looksAt_150 (q := 151) rfl ?_
        refine v_goto hC dX6_looksAt_151 (t := 155) rfl ?_
        refine v_iadd hC dX6_looksAt_155 (q := 156) rfl ?_
        refine hR _ _ _ _ ?_ dX6_looksAt_156
        refine ⟨?_, rfl⟩
        first | (simp [lookF, *]; done) | (simp only [lookF]; grind)
    refine v_em 5 (fun hs98_4 => ?_) (fun hs98_4 => ?_)
    · refine v_tin hC dX6_looksAt_98 (by decide) (by decide) rfl (t := 157) rfl ?_
      refine v_iload hC rfl dX6_looksAt_157 (q := 159) rfl ?_
      refine v_iconst hC (v := 5) rfl dX6_looksAt_159 (q := 160) rfl ?_
      refine v_icmp_ge hC dX6_looksAt_160 (t := 167) rfl (q := 163) rfl (fun h160 => ?_) (fun h160 => ?_)
      · refine v_iload hC rfl dX6_looksAt_167 (q := 169) rfl ?_
        refine hR _ _ _ _ ?_ dX6_looksAt_169
        refine ⟨?_, rfl⟩
        first | (simp [lookF, *]; done) | (simp only [lookF]; grind)
      · refine v_iconst hC (v := 5) rfl dX6_looksAt_163 (q := 164) rfl ?_
        refine v_goto hC dX6_looksAt_164 (t := 169) rfl ?_
        refine hR _ _ _ _ ?_ dX6_looksAt_169
        refine ⟨?_, rfl⟩
        first | (simp [lookF, *]; done) | (simp only [lookF]; grind)
    refine v_tout hC dX6_looksAt_98 (sw_out_1_5 hs98_0 hs98_1 hs98_2 hs98_3 hs98_4) (t := 170) rfl ?_
    refine v_iload hC rfl dX6_looksAt_170 (q := 172) rfl ?_
    refine hR _ _ _ _ ?_ dX6_looksAt_172
    refine ⟨?_, rfl⟩
    first | (simp [lookF, *]; done) | (simp only [lookF]; grind)
  have J74 : ∀ hup : ¬ pv m p 3 = 1, ∀ z, z = broF (nI p) (pv m p) o → V l X (rmk 1 22) C (hp X S (i, m, r, c)) 74 [some (.ref (ga X 47)), some (.int (nI p)), some (.int o), some (.int (pv m p 5 - pv m p 6)), some (.int (plainF (pv m p) o)), none, none] [.int z] := by
    rintro hup z rfl
    refine v_istore_5 hC rfl dX6_looksAt_74 (q := 76) rfl ?_
    refine v_iload_n hC rfl dX6_looksAt_76 (q := 77) rfl ?_
    refine v_iload_n hC rfl dX6_looksAt_77 (q := 78) rfl ?_
    refine v_icmp_ge hC dX6_looksAt_78 (t := 88) rfl (q := 81) rfl (fun h78 => ?_) (fun h78 => ?_)
    · refine v_iload hC rfl dX6_looksAt_88 (q := 90) rfl ?_
      exact J90 hup _ (by first | (simp [briF, *]; done) | (simp only [briF]; grind))
    · refine v_iconst hC (v := 2) rfl dX6_looksAt_81 (q := 82) rfl ?_
      refine v_iload hC rfl dX6_looksAt_82 (q := 84) rfl ?_
      refine v_imul hC dX6_looksAt_84 (q := 85) rfl ?_
      refine v_goto hC dX6_looksAt_85 (t := 90) rfl ?_
      exact J90 hup _ (by first | (simp [briF, *]; done) | (simp only [briF]; grind))
  have J57 : ∀ hup : ¬ pv m p 3 = 1, ∀ z, z = plainF (pv m p) o → V l X (rmk 1 22) C (hp X S (i, m, r, c)) 57 [some (.ref (ga X 47)), some (.int (nI p)), some (.int o), some (.int (pv m p 5 - pv m p 6)), none, none, none] [.int z] := by
    rintro hup z rfl
    refine v_istore_4 hC rfl dX6_looksAt_57 (q := 59) rfl ?_
    refine v_iload hC rfl dX6_looksAt_59 (q := 61) rfl ?_
    refine v_iload_n hC rfl dX6_looksAt_61 (q := 62) rfl ?_
    refine v_iload_n hC rfl dX6_looksAt_62 (q := 63) rfl ?_
    refine v_iconst hC (v := 1) rfl dX6_looksAt_63 (q := 64) rfl ?_
    refine v_iadd hC dX6_looksAt_64 (q := 65) rfl ?_
    refine v_icmp_ne hC dX6_looksAt_65 (t := 72) rfl (q := 68) rfl (fun h65 => ?_) (fun h65 => ?_)
    · refine v_iconst hC (v := 0) rfl dX6_looksAt_72 (q := 73) rfl ?_
      refine v_iadd hC dX6_looksAt_73 (q := 74) rfl ?_
      exact J74 hup _ (by simp [broF, *])
    · refine v_iconst hC (v := 5) rfl dX6_looksAt_68 (q := 69) rfl ?_
      refine v_goto hC dX6_looksAt_69 (t := 73) rfl ?_
      refine v_iadd hC dX6_looksAt_73 (q := 74) rfl ?_
      exact J74 hup _ (by simp [broF, *])
  refine v_aload_n hC rfl dX6_looksAt_0 (q := 1) rfl ?_
  refine v_iload_n hC rfl dX6_looksAt_1 (q := 2) rfl ?_
  refine v_iconst hC (v := 3) rfl dX6_looksAt_2 (q := 3) rfl ?_
  refine v_Vi hC lkV_X6_49 (c_X6_it (w := 3) (by first | assumption | omega) (Nat.le_of_ble_eq_true rfl)) rfl (by decide) (k := 47) (by decide) hp_47 rfl rfl (Nat.le_of_ble_eq_true rfl) dX6_looksAt_3 (q := 6) rfl ?_
  rintro _ _ ⟨rfl, rfl⟩
  refine v_iconst hC (v := 1) rfl dX6_looksAt_6 (q := 7) rfl ?_
  refine v_icmp_ne hC dX6_looksAt_7 (t := 13) rfl (q := 10) rfl (fun h7 => ?_) (fun h7 => ?_)
  · refine v_aload_n hC rfl dX6_looksAt_13 (q := 14) rfl ?_
    refine v_iload_n hC rfl dX6_looksAt_14 (q := 15) rfl ?_
    refine v_iconst hC (v := 5) rfl dX6_looksAt_15 (q := 16) rfl ?_
    refine v_Vi hC lkV_X6_49 (c_X6_it (w := 5) (by first | assumption | omega) (Nat.le_of_ble_eq_true rfl)) rfl (by decide) (k := 47) (by decide) hp_47 rfl rfl (Nat.le_of_ble_eq_true rfl) dX6_looksAt_16 (q := 19) rfl ?_
    rintro _ _ ⟨rfl, rfl⟩
    refine v_aload_n hC rfl dX6_looksAt_19 (q := 20) rfl ?_
    refine v_iload_n hC rfl dX6_looksAt_20 (q := 21) rfl ?_
    refine v_bipush hC (v := 6) rfl dX6_looksAt_21 (q := 23) rfl ?_
    refine v_Vi hC lkV_X6_49 (c_X6_it (w := 6) (by first | assumption | omega) (Nat.le_of_ble_eq_true rfl)) rfl (by decide) (k := 47) (by decide) hp_47 rfl rfl (Nat.le_of_ble_eq_true rfl) dX6_looksAt_23 (q := 26) rfl ?_
    rintro _ _ ⟨rfl, rfl⟩
    refine v_isub hC dX6_looksAt_26 (q := 27) rfl ?_
    refine v_istore_3 hC rfl dX6_looksAt_27 (q := 28) rfl ?_
    refine v_iload_n hC rfl dX6_looksAt_28 (q := 29) rfl ?_
    refine v_aload_n hC rfl dX6_looksAt_29 (q := 30) rfl ?_
    refine v_iload_n hC rfl dX6_looksAt_30 (q := 31) rfl ?_
    refine v_iconst hC (v := 4) rfl dX6_looksAt_31 (q := 32) rfl ?_
    refine v_Vi hC lkV_X6_49 (c_X6_it (w := 4) (by first | assumption | omega) (Nat.le_of_ble_eq_true rfl)) rfl (by decide) (k := 47) (by decide) hp_47 rfl rfl (Nat.le_of_ble_eq_true rfl) dX6_looksAt_32 (q := 35) rfl ?_
    rintro _ _ ⟨rfl, rfl⟩
    refine v_icmp_ne hC dX6_looksAt_35 (t := 48) rfl (q := 38) rfl (fun h35 => ?_) (fun h35 => ?_)
    · refine v_aload_n hC rfl dX6_looksAt_48 (q := 49) rfl ?_
      refine v_iload_n hC rfl dX6_looksAt_49 (q := 50) rfl ?_
      refine v_bipush hC (v := 6) rfl dX6_looksAt_50 (q := 52) rfl ?_
      refine v_Vi hC lkV_X6_49 (c_X6_it (w := 6) (by first | assumption | omega) (Nat.le_of_ble_eq_true rfl)) rfl (by decide) (k := 47) (by decide) hp_47 rfl rfl (Nat.le_of_ble_eq_true rfl) dX6_looksAt_52 (q := 55) rfl ?_
      rintro _ _ ⟨rfl, rfl⟩
      refine v_iconst hC (v := 2) rfl dX6_looksAt_55 (q := 56) rfl ?_
      refine v_idiv hC (by decide) dX6_looksAt_56 (q := 57) rfl ?_
      exact J57 h7 _ (by simp [plainF, *])
    · refine v_iload_n hC rfl dX6_looksAt_38 (q := 39) rfl ?_
      refine v_iconst hC (v := 0) rfl dX6_looksAt_39 (q := 40) rfl ?_
      refine v_bipush hC (v := 99) rfl dX6_looksAt_40 (q := 42) rfl ?_
      refine v_Si hC lkS_X6_53 c_X6_held rfl (by decide) rfl (Nat.le_of_ble_eq_true rfl) dX6_looksAt_42 (q := 45) rfl ?_
      rintro _ _ ⟨rfl, rfl⟩
      refine v_goto hC dX6_looksAt_45 (t := 57) rfl ?_
      exact J57 h7 _ (by simp [plainF, *])
  · refine v_bipush hC (v := 50) rfl dX6_looksAt_10 (q := 12) rfl ?_
    refine hR _ _ _ _ ?_ dX6_looksAt_12
    refine ⟨?_, rfl⟩
    first | (simp [lookF, *]; done) | (simp only [lookF]; grind)

set_option maxHeartbeats 4000000 in
set_option maxRecDepth 100000 in
theorem c_X6_sight {l : Launch} {X : Gx} {S : CS} {i m : Nat → Int32} {r : Nat → Nat → Int32} {c : Nat → Int64} {p : Nat} (h1 : p < 8) : Ci l X yX6_sight cX6_sight 2 (some .int) (rmk 2 48) [.ref (ga X 47), .int (nI p)] (hp X S (i, m, r, c)) (fun z g => z = sightF (nI p) (pv m p) ∧ g = hp X S (i, m, r, c)) := by
  refine ct_i (own := RX6) (lv := [some (.ref (ga X 47)), some (.int (nI p))]) (by decide) rfl (Nat.le_of_ble_eq_true rfl) (Nat.le_of_ble_eq_true rfl) rfl (fun C hC hR => ?_)
  refine v_aload_n hC rfl dX6_sight_0 (q := 1) rfl ?_
  refine v_iload_n hC rfl dX6_sight_1 (q := 2) rfl ?_
  refine v_iconst hC (v := 2) rfl dX6_sight_2 (q := 3) rfl ?_
  refine v_Vi hC lkV_X6_49 (c_X6_it (w := 2) (by first | assumption | omega) (Nat.le_of_ble_eq_true rfl)) rfl (by decide) (k := 47) (by decide) hp_47 rfl rfl (Nat.le_of_ble_eq_true rfl) dX6_sight_3 (q := 6) rfl ?_
  rintro _ _ ⟨rfl, rfl⟩
  refine v_if_ge hC dX6_sight_6 (t := 13) rfl (q := 9) rfl (fun h6 => ?_) (fun h6 => ?_)
  · refine v_aload_n hC rfl dX6_sight_13 (q := 14) rfl ?_
    refine v_iload_n hC rfl dX6_sight_14 (q := 15) rfl ?_
    refine v_aload_n hC rfl dX6_sight_15 (q := 16) rfl ?_
    refine v_iload_n hC rfl dX6_sight_16 (q := 17) rfl ?_
    refine v_iconst hC (v := 2) rfl dX6_sight_17 (q := 18) rfl ?_
    refine v_Vi hC lkV_X6_49 (c_X6_it (w := 2) (by first | assumption | omega) (Nat.le_of_ble_eq_true rfl)) rfl (by decide) (k := 47) (by decide) hp_47 rfl rfl (Nat.le_of_ble_eq_true rfl) dX6_sight_18 (q := 21) rfl ?_
    rintro _ _ ⟨rfl, rfl⟩
    refine v_Vi hC lkV_X6_57 (c_X6_looksAt (by omega)) rfl (by decide) (k := 47) (by decide) hp_47 rfl rfl (Nat.le_of_ble_eq_true rfl) dX6_sight_21 (q := 24) rfl ?_
    rintro _ _ ⟨rfl, rfl⟩
    refine hR _ _ _ _ ?_ dX6_sight_24
    refine ⟨?_, rfl⟩
    simp only [sightF]
    first | rw [if_neg (Int32.not_lt.mpr h6)] | rw [if_pos (Int32.not_le.mp h6)]
  · refine v_iconst hC (v := 0) rfl dX6_sight_9 (q := 10) rfl ?_
    refine v_goto hC dX6_sight_10 (t := 24) rfl ?_
    refine hR _ _ _ _ ?_ dX6_sight_24
    refine ⟨?_, rfl⟩
    simp only [sightF]
    first | rw [if_neg (Int32.not_lt.mpr h6)] | rw [if_pos (Int32.not_le.mp h6)]

set_option maxHeartbeats 4000000 in
set_option maxRecDepth 100000 in
theorem c_X6_eases {l : Launch} {X : Gx} {S : CS} {i m : Nat → Int32} {r : Nat → Nat → Int32} {c : Nat → Int64} {p : Nat} (h1 : p < 8) : Ci l X yX6_eases cX6_eases 3 (some .int) (rmk 3 69) [.ref (ga X 47), .int (nI p)] (hp X S (i, m, r, c)) (fun z g => z = easeF (nI p) (pv m p) ∧ g = hp X S (i, m, r, c)) := by
  refine ct_i (own := RX6) (lv := [some (.ref (ga X 47)), some (.int (nI p)), none]) (by decide) rfl (Nat.le_of_ble_eq_true rfl) (Nat.le_of_ble_eq_true rfl) rfl (fun C hC hR => ?_)
  have J15 : ∀ z, z = easeP (nI p) (pv m p) → V l X (rmk 3 69) C (hp X S (i, m, r, c)) 15 [some (.ref (ga X 47)), some (.int (nI p)), none] [.int z] := by
    rintro z rfl
    refine v_istore_2 hC rfl dX6_eases_15 (q := 16) rfl ?_
    refine v_aload_n hC rfl dX6_eases_16 (q := 17) rfl ?_
    refine v_iload_n hC rfl dX6_eases_17 (q := 18) rfl ?_
    refine v_iconst hC (v := 0) rfl dX6_eases_18 (q := 19) rfl ?_
    refine v_Vi hC lkV_X6_49 (c_X6_it (w := 0) (by first | assumption | omega) (Nat.le_of_ble_eq_true rfl)) rfl (by decide) (k := 47) (by decide) hp_47 rfl rfl (Nat.le_of_ble_eq_true rfl) dX6_eases_19 (q := 22) rfl ?_
    rintro _ _ ⟨rfl, rfl⟩
    refine v_em 1 (fun hs22_0 => ?_) (fun hs22_0 => ?_)
    · refine v_tin hC dX6_eases_22 (by decide) (by decide) rfl (t := 56) rfl ?_
      refine v_aload_n hC rfl dX6_eases_56 (q := 57) rfl ?_
      refine v_iload_n hC rfl dX6_eases_57 (q := 58) rfl ?_
      refine v_iconst hC (v := 1) rfl dX6_eases_58 (q := 59) rfl ?_
      refine v_Vi hC lkV_X6_49 (c_X6_it (w := 1) (by first | assumption | omega) (Nat.le_of_ble_eq_true rfl)) rfl (by decide) (k := 47) (by decide) hp_47 rfl rfl (Nat.le_of_ble_eq_true rfl) dX6_eases_59 (q := 62) rfl ?_
      rintro _ _ ⟨rfl, rfl⟩
      refine v_bipush hC (v := 50) rfl dX6_eases_62 (q := 64) rfl ?_
      refine v_icmp_le hC dX6_eases_64 (t := 71) rfl (q := 67) rfl (fun h64 => ?_) (fun h64 => ?_)
      · refine v_iload_n hC rfl dX6_eases_71 (q := 72) rfl ?_
        refine hR _ _ _ _ ?_ dX6_eases_72
        refine ⟨?_, rfl⟩
        first | (simp [easeF, *]; done) | (simp [easeF, hs22_0, Int32.not_lt.mpr h64]; done) | (simp [easeF, hs22_0, Int32.not_le.mp h64]; done) | (simp [easeF, hs22_3, Int32.not_lt.mpr h64]; done) | (simp [easeF, hs22_3, Int32.not_le.mp h64]; done)
      · refine v_iconst hC (v := 0) rfl dX6_eases_67 (q := 68) rfl ?_
        refine v_goto hC dX6_eases_68 (t := 72) rfl ?_
        refine hR _ _ _ _ ?_ dX6_eases_72
        refine ⟨?_, rfl⟩
        first | (simp [easeF, *]; done) | (simp [easeF, hs22_0, Int32.not_lt.mpr h64]; done) | (simp [easeF, hs22_0, Int32.not_le.mp h64]; done) | (simp [easeF, hs22_3, Int32.not_lt.mpr h64]; done) | (simp [easeF, hs22_3, Int32.not_le.mp h64]; done)
    refine v_em 2 (fun hs22_1 => ?_) (fun hs22_1 => ?_)
    · refine v_tin hC dX6_eases_22 (by decide) (by decide) rfl (t := 73) rfl ?_
      refine v_iconst hC (v := 2) rfl dX6_eases_73 (q := 74) rfl ?_
      refine v_iload_n hC rfl dX6_eases_74 (q := 75) rfl ?_
      refine v_imul hC dX6_eases_75 (q := 76) rfl ?_
      refine hR _ _ _ _ ?_ dX6_eases_76
      refine ⟨?_, rfl⟩
      first | (simp [easeF, *]; done) | (simp [easeF, hs22_0, Int32.not_lt.mpr h64]; done) | (simp [easeF, hs22_0, Int32.not_le.mp h64]; done) | (simp [easeF, hs22_3, Int32.not_lt.mpr h64]; done) | (simp [easeF, hs22_3, Int32.not_le.mp h64]; done)
    refine v_em 3 (fun hs22_2 => ?_) (fun hs22_2 => ?_)
    · refine v_tin hC dX6_eases_22 (by decide) (by decide) rfl (t := 77) rfl ?_
      refine v_iconst hC (v := 3) rfl dX6_eases_77 (q := 78) rfl ?_
      refine hR _ _ _ _ ?_ dX6_eases_78
      refine ⟨?_, rfl⟩
      first | (simp [easeF, *]; done) | (simp [easeF, hs22_0, Int32.not_lt.mpr h64]; done) | (simp [easeF, hs22_0, Int32.not_le.mp h64]; done) | (simp [easeF, hs22_3, Int32.not_lt.mpr h64]; done) | (simp [easeF, hs22_3, Int32.not_le.mp h64]; done)
    refine v_em 4 (fun hs22_3 => ?_) (fun hs22_3 => ?_)
    · refine v_tin hC dX6_eases_22 (by decide) (by decide) rfl (t := 56) rfl ?_
      refine v_aload_n hC rfl dX6_eases_56 (q := 57) rfl ?_
      refine v_iload_n hC rfl dX6_eases_57 (q := 58) rfl ?_
      refine v_iconst hC (v := 1) rfl dX6_eases_58 (q := 59) rfl ?_
      refine v_Vi hC lkV_X6_49 (c_X6_it (w := 1) (by first | assumption | omega) (Nat.le_of_ble_eq_true rfl)) rfl (by decide) (k := 47) (by decide) hp_47 rfl rfl (Nat.le_of_ble_eq_true rfl) dX6_eases_59 (q := 62) rfl ?_
      rintro _ _ ⟨rfl, rfl⟩
      refine v_bipush hC (v := 50) rfl dX6_eases_62 (q := 64) rfl ?_
      refine v_icmp_le hC dX6_eases_64 (t := 71) rfl (q := 67) rfl (fun h64 => ?_) (fun h64 => ?_)
      · refine v_iload_n hC rfl dX6_eases_71 (q := 72) rfl ?_
        refine hR _ _ _ _ ?_ dX6_eases_72
        refine ⟨?_, rfl⟩
        first | (simp [easeF, *]; done) | (simp [easeF, hs22_0, Int32.not_lt.mpr h64]; done) | (simp [easeF, hs22_0, Int32.not_le.mp h64]; done) | (simp [easeF, hs22_3, Int32.not_lt.mpr h64]; done) | (simp [easeF, hs22_3, Int32.not_le.mp h64]; done)
      · refine v_iconst hC (v := 0) rfl dX6_eases_67 (q := 68) rfl ?_
        refine v_goto hC dX6_eases_68 (t := 72) rfl ?_
        refine hR _ _ _ _ ?_ dX6_eases_72
        refine ⟨?_, rfl⟩
        first | (simp [easeF, *]; done) | (simp [easeF, hs22_0, Int32.not_lt.mpr h64]; done) | (simp [easeF, hs22_0, Int32.not_le.mp h64]; done) | (simp [easeF, hs22_3, Int32.not_lt.mpr h64]; done) | (simp [easeF, hs22_3, Int32.not_le.mp h64]; done)
    refine v_em 5 (fun hs22_4 => ?_) (fun hs22_4 => ?_)
    · refine v_tin hC dX6_eases_22 (by decide) (by decide) rfl (t := 79) rfl ?_
      refine v_iconst hC (v := 2) rfl dX6_eases_79 (q := 80) rfl ?_
      refine v_iload_n hC rfl dX6_eases_80 (q := 81) rfl ?_
      refine v_imul hC dX6_eases_81 (q := 82) rfl ?_
      refine v_aload_n hC rfl dX6_eases_82 (q := 83) rfl ?_
      refine v_iload_n hC rfl dX6_eases_83 (q := 84) rfl ?_
      refine v_iconst hC (v := 3) rfl dX6_eases_84 (q := 85) rfl ?_
      refine v_Vi hC lkV_X6_49 (c_X6_it (w := 3) (by first | assumption | omega) (Nat.le_of_ble_eq_true rfl)) rfl (by decide) (k := 47) (by decide) hp_47 rfl rfl (Nat.le_of_ble_eq_true rfl) dX6_eases_85 (q := 88) rfl ?_
      rintro _ _ ⟨rfl, rfl⟩
      refine v_iadd hC dX6_eases_88 (q := 89) rfl ?_
      refine hR _ _ _ _ ?_ dX6_eases_89
      refine ⟨?_, rfl⟩
      first | (simp [easeF, *]; done) | (simp [easeF, hs22_0, Int32.not_lt.mpr h64]; done) | (simp [easeF, hs22_0, Int32.not_le.mp h64]; done) | (simp [easeF, hs22_3, Int32.not_lt.mpr h64]; done) | (simp [easeF, hs22_3, Int32.not_le.mp h64]; done)
    refine v_tout hC dX6_eases_22 (sw_out_1_5 hs22_0 hs22_1 hs22_2 hs22_3 hs22_4) (t := 90) rfl ?_
    refine v_iload_n hC rfl dX6_eases_90 (q := 91) rfl ?_
    refine hR _ _ _ _ ?_ dX6_eases_91
    refine ⟨?_, rfl⟩
    first | (simp [easeF, *]; done) | (simp [easeF, hs22_0, Int32.not_lt.mpr h64]; done) | (simp [easeF, hs22_0, Int32.not_le.mp h64]; done) | (simp [easeF, hs22_3, Int32.not_lt.mpr h64]; done) | (simp [easeF, hs22_3, Int32.not_le.mp h64]; done)
  refine v_aload_n hC rfl dX6_eases_0 (q := 1) rfl ?_
  refine v_iload_n hC rfl dX6_eases_1 (q := 2) rfl ?_
  refine v_Vi hC lkV_X6_60 (c_X6_sight (by omega)) rfl (by decide) (k := 47) (by decide) hp_47 rfl rfl (Nat.le_of_ble_eq_true rfl) dX6_eases_2 (q := 5) rfl ?_
  rintro _ _ ⟨rfl, rfl⟩
  refine v_bipush hC (v := 30) rfl dX6_eases_5 (q := 7) rfl ?_
  refine v_icmp_ge hC dX6_eases_7 (t := 14) rfl (q := 10) rfl (fun h7 => ?_) (fun h7 => ?_)
  · refine v_iconst hC (v := 0) rfl dX6_eases_14 (q := 15) rfl ?_
    exact J15 _ (by simp [easeP, Int32.not_lt.mpr, Int32.not_le.mp, *])
  · refine v_iconst hC (v := 1) rfl dX6_eases_10 (q := 11) rfl ?_
    refine v_goto hC dX6_eases_11 (t := 15) rfl ?_
    exact J15 _ (by simp [easeP, Int32.not_lt.mpr, Int32.not_le.mp, *])

set_option maxHeartbeats 4000000 in
set_option maxRecDepth 100000 in
theorem c_X6_grows {l : Launch} {X : Gx} {S : CS} {i m : Nat → Int32} {r : Nat → Nat → Int32} {c : Nat → Int64} {p : Nat} (h1 : p < 8) : Ci l X yX6_grows cX6_grows 5 (some .int) (rmk 3 69) [.ref (ga X 47), .int (nI p)] (hp X S (i, m, r, c)) (fun z g => z = growF (nI p) (pv m p) ∧ g = hp X S (i, m, r, c)) := by
  refine ct_i (own := RX6) (lv := [some (.ref (ga X 47)), some (.int (nI p)), none, none, none]) (by decide) rfl (Nat.le_of_ble_eq_true rfl) (Nat.le_of_ble_eq_true rfl) rfl (fun C hC hR => ?_)
  have J31 : ∀ z, z = growB (sightF (nI p) (pv m p)) → V l X (rmk 3 69) C (hp X S (i, m, r, c)) 31 [some (.ref (ga X 47)), some (.int (nI p)), some (.int (sightF (nI p) (pv m p))), some (.int (growP (sightF (nI p) (pv m p)))), none] [.int z] := by
    rintro z rfl
    refine v_istore_4 hC rfl dX6_grows_31 (q := 33) rfl ?_
    refine v_aload_n hC rfl dX6_grows_33 (q := 34) rfl ?_
    refine v_iload_n hC rfl dX6_grows_34 (q := 35) rfl ?_
    refine v_iconst hC (v := 0) rfl dX6_grows_35 (q := 36) rfl ?_
    refine v_Vi hC lkV_X6_49 (c_X6_it (w := 0) (by first | assumption | omega) (Nat.le_of_ble_eq_true rfl)) rfl (by decide) (k := 47) (by decide) hp_47 rfl rfl (Nat.le_of_ble_eq_true rfl) dX6_grows_36 (q := 39) rfl ?_
    rintro _ _ ⟨rfl, rfl⟩
    refine v_em 1 (fun hs39_0 => ?_) (fun hs39_0 => ?_)
    · refine v_tin hC dX6_grows_39 (by decide) (by decide) rfl (t := 68) rfl ?_
      refine v_iload hC rfl dX6_grows_68 (q := 70) rfl ?_
      refine hR _ _ _ _ ?_ dX6_grows_70
      refine ⟨?_, rfl⟩
      first | (simp [growF, *]; done) | (simp only [growF]; grind)
    refine v_em 2 (fun hs39_1 => ?_) (fun hs39_1 => ?_)
    · refine v_tin hC dX6_grows_39 (by decide) (by decide) rfl (t := 78) rfl ?_
      refine v_iload_n hC rfl dX6_grows_78 (q := 79) rfl ?_
      refine hR _ _ _ _ ?_ dX6_grows_79
      refine ⟨?_, rfl⟩
      first | (simp [growF, *]; done) | (simp only [growF]; grind)
    refine v_em 3 (fun hs39_2 => ?_) (fun hs39_2 => ?_)
    · refine v_tin hC dX6_grows_39 (by decide) (by decide) rfl (t := 71) rfl ?_
      refine v_iconst hC (v := 0) rfl dX6_grows_71 (q := 72) rfl ?_
      refine hR _ _ _ _ ?_ dX6_grows_72
      refine ⟨?_, rfl⟩
      first | (simp [growF, *]; done) | (simp only [growF]; grind)
    refine v_em 4 (fun hs39_3 => ?_) (fun hs39_3 => ?_)
    · refine v_tin hC dX6_grows_39 (by decide) (by decide) rfl (t := 73) rfl ?_
      refine v_iconst hC (v := 2) rfl dX6_grows_73 (q := 74) rfl ?_
      refine v_iload hC rfl dX6_grows_74 (q := 76) rfl ?_
      refine v_imul hC dX6_grows_76 (q := 77) rfl ?_
      refine hR _ _ _ _ ?_ dX6_grows_77
      refine ⟨?_, rfl⟩
      first | (simp [growF, *]; done) | (simp only [growF]; grind)
    refine v_tout hC dX6_grows_39 (sw_out_1_4 hs39_0 hs39_1 hs39_2 hs39_3) (t := 78) rfl ?_
    refine v_iload_n hC rfl dX6_grows_78 (q := 79) rfl ?_
    refine hR _ _ _ _ ?_ dX6_grows_79
    refine ⟨?_, rfl⟩
    first | (simp [growF, *]; done) | (simp only [growF]; grind)
  have J17 : ∀ z, z = growP (sightF (nI p) (pv m p)) → V l X (rmk 3 69) C (hp X S (i, m, r, c)) 17 [some (.ref (ga X 47)), some (.int (nI p)), some (.int (sightF (nI p) (pv m p))), none, none] [.int z] := by
    rintro z rfl
    refine v_istore_3 hC rfl dX6_grows_17 (q := 18) rfl ?_
    refine v_iload_n hC rfl dX6_grows_18 (q := 19) rfl ?_
    refine v_iload_n hC rfl dX6_grows_19 (q := 20) rfl ?_
    refine v_bipush hC (v := 80) rfl dX6_grows_20 (q := 22) rfl ?_
    refine v_icmp_lt hC dX6_grows_22 (t := 29) rfl (q := 25) rfl (fun h22 => ?_) (fun h22 => ?_)
    · refine v_iconst hC (v := 0) rfl dX6_grows_29 (q := 30) rfl ?_
      refine v_iadd hC dX6_grows_30 (q := 31) rfl ?_
      exact J31 _ (by simp [growB, *])
    · refine v_iconst hC (v := 1) rfl dX6_grows_25 (q := 26) rfl ?_
      refine v_goto hC dX6_grows_26 (t := 30) rfl ?_
      refine v_iadd hC dX6_grows_30 (q := 31) rfl ?_
      exact J31 _ (by simp [growB, *])
  refine v_aload_n hC rfl dX6_grows_0 (q := 1) rfl ?_
  refine v_iload_n hC rfl dX6_grows_1 (q := 2) rfl ?_
  refine v_Vi hC lkV_X6_60 (c_X6_sight (by omega)) rfl (by decide) (k := 47) (by decide) hp_47 rfl rfl (Nat.le_of_ble_eq_true rfl) dX6_grows_2 (q := 5) rfl ?_
  rintro _ _ ⟨rfl, rfl⟩
  refine v_istore_2 hC rfl dX6_grows_5 (q := 6) rfl ?_
  refine v_iload_n hC rfl dX6_grows_6 (q := 7) rfl ?_
  refine v_bipush hC (v := 60) rfl dX6_grows_7 (q := 9) rfl ?_
  refine v_icmp_lt hC dX6_grows_9 (t := 16) rfl (q := 12) rfl (fun h9 => ?_) (fun h9 => ?_)
  · refine v_iconst hC (v := 0) rfl dX6_grows_16 (q := 17) rfl ?_
    exact J17 _ (by simp [growP, *])
  · refine v_iconst hC (v := 1) rfl dX6_grows_12 (q := 13) rfl ?_
    refine v_goto hC dX6_grows_13 (t := 17) rfl ?_
    exact J17 _ (by simp [growP, *])

def newP (m : Nat → Int32) (n : Nat) (kd gr at_ : Int32) : Nat → Int32 := pu (pu (pu (pu (pu (pu (pu (upd m 1 (m 1 + 1)) n 0 kd) n 1 gr) n 2 at_) n 3 0) n 4 (-1)) n 5 0) n 6 0
def groundM (m : Nat → Int32) (p : Nat) : Nat → Int32 := pu (pu (pu (pu m p 5 (grindF (pv m p))) p 4 (pv m p 2)) p 6 0) p 3 0
set_option maxHeartbeats 4000000 in
set_option maxRecDepth 100000 in
theorem c_X6_comesAs {l : Launch} {X : Gx} {S : CS} {i m : Nat → Int32} {r : Nat → Nat → Int32} {c : Nat → Int64} {n : Nat} (hN : m 1 = nI n) (h8 : n < 8) {kd gr at_ : Int32} : Ci l X yX6_comesAs cX6_comesAs 5 (some .int) (rmk 1 23) [.ref (ga X 47), .int kd, .int gr, .int at_] (hp X S (i, m, r, c)) (fun z g => z = nI n ∧ g = hp X S (i, newP m n kd gr at_, r, c)) := by
  refine ct_i (own := RX6) (lv := [some (.ref (ga X 47)), some (.int kd), some (.int gr), some (.int at_), none]) (by decide) rfl (Nat.le_of_ble_eq_true rfl) (Nat.le_of_ble_eq_true rfl) rfl (fun C hC hR => ?_)
  refine v_aload_n hC rfl dX6_comesAs_0 (q := 1) rfl ?_
  refine v_get hC fl_X6_9 (k := 47) (by decide) hp_47 rfl dX6_comesAs_1 (q := 4) rfl ?_
  refine v_iconst hC (v := 1) rfl dX6_comesAs_4 (q := 5) rfl ?_
  refine v_iald hC (k := 48) (by decide) hp_48 (vp_l (by decide)) (j := 1) rfl dX6_comesAs_5 (q := 6) rfl ?_
  rw [hN]
  refine v_istore_4 hC rfl dX6_comesAs_6 (q := 8) rfl ?_
  refine v_aload_n hC rfl dX6_comesAs_8 (q := 9) rfl ?_
  refine v_get hC fl_X6_9 (k := 47) (by decide) hp_47 rfl dX6_comesAs_9 (q := 12) rfl ?_
  refine v_iconst hC (v := 1) rfl dX6_comesAs_12 (q := 13) rfl ?_
  refine v_dup2 hC rfl rfl dX6_comesAs_13 (q := 14) rfl ?_
  refine v_iald hC (k := 48) (by decide) hp_48 (vp_l (by decide)) (j := 1) rfl dX6_comesAs_14 (q := 15) rfl ?_
  refine v_iconst hC (v := 1) rfl dX6_comesAs_15 (q := 16) rfl ?_
  refine v_iadd hC dX6_comesAs_16 (q := 17) rfl ?_
  refine v_iast hC (k := 48) (by decide) hp_48 (vp_l (by decide)) (j := 1) rfl (hpr_0 _) dX6_comesAs_17 (q := 18) rfl ?_
  refine v_aload_n hC rfl dX6_comesAs_18 (q := 19) rfl ?_
  refine v_iload hC rfl dX6_comesAs_19 (q := 21) rfl ?_
  refine v_iconst hC (v := 0) rfl dX6_comesAs_21 (q := 22) rfl ?_
  refine v_iload_n hC rfl dX6_comesAs_22 (q := 23) rfl ?_
  refine v_Vv hC lkV_X6_63 (c_X6_put (w := 0) (by first | assumption | omega) (Nat.le_of_ble_eq_true rfl)) rfl (by decide) (k := 47) (by decide) hp_47 rfl rfl (Nat.le_of_ble_eq_true rfl) dX6_comesAs_23 (q := 26) rfl ?_
  rintro _ rfl
  refine v_aload_n hC rfl dX6_comesAs_26 (q := 27) rfl ?_
  refine v_iload hC rfl dX6_comesAs_27 (q := 29) rfl ?_
  refine v_iconst hC (v := 1) rfl dX6_comesAs_29 (q := 30) rfl ?_
  refine v_iload_n hC rfl dX6_comesAs_30 (q := 31) rfl ?_
  refine v_Vv hC lkV_X6_63 (c_X6_put (w := 1) (by first | assumption | omega) (Nat.le_of_ble_eq_true rfl)) rfl (by decide) (k := 47) (by decide) hp_47 rfl rfl (Nat.le_of_ble_eq_true rfl) dX6_comesAs_31 (q := 34) rfl ?_
  rintro _ rfl
  refine v_aload_n hC rfl dX6_comesAs_34 (q := 35) rfl ?_
  refine v_iload hC rfl dX6_comesAs_35 (q := 37) rfl ?_
  refine v_iconst hC (v := 2) rfl dX6_comesAs_37 (q := 38) rfl ?_
  refine v_iload_n hC rfl dX6_comesAs_38 (q := 39) rfl ?_
  refine v_Vv hC lkV_X6_63 (c_X6_put (w := 2) (by first | assumption | omega) (Nat.le_of_ble_eq_true rfl)) rfl (by decide) (k := 47) (by decide) hp_47 rfl rfl (Nat.le_of_ble_eq_true rfl) dX6_comesAs_39 (q := 42) rfl ?_
  rintro _ rfl
  refine v_aload_n hC rfl dX6_comesAs_42 (q := 43) rfl ?_
  refine v_iload hC rfl dX6_comesAs_43 (q := 45) rfl ?_
  refine v_iconst hC (v := 3) rfl dX6_comesAs_45 (q := 46) rfl ?_
  refine v_iconst hC (v := 0) rfl dX6_comesAs_46 (q := 47) rfl ?_
  refine v_Vv hC lkV_X6_63 (c_X6_put (w := 3) (by first | assumption | omega) (Nat.le_of_ble_eq_true rfl)) rfl (by decide) (k := 47) (by decide) hp_47 rfl rfl (Nat.le_of_ble_eq_true rfl) dX6_comesAs_47 (q := 50) rfl ?_
  rintro _ rfl
  refine v_aload_n hC rfl dX6_comesAs_50 (q := 51) rfl ?_
  refine v_iload hC rfl dX6_comesAs_51 (q := 53) rfl ?_
  refine v_iconst hC (v := 4) rfl dX6_comesAs_53 (q := 54) rfl ?_
  refine v_iconst hC (v := (-1)) rfl dX6_comesAs_54 (q := 55) rfl ?_
  refine v_Vv hC lkV_X6_63 (c_X6_put (w := 4) (by first | assumption | omega) (Nat.le_of_ble_eq_true rfl)) rfl (by decide) (k := 47) (by decide) hp_47 rfl rfl (Nat.le_of_ble_eq_true rfl) dX6_comesAs_55 (q := 58) rfl ?_
  rintro _ rfl
  refine v_aload_n hC rfl dX6_comesAs_58 (q := 59) rfl ?_
  refine v_iload hC rfl dX6_comesAs_59 (q := 61) rfl ?_
  refine v_iconst hC (v := 5) rfl dX6_comesAs_61 (q := 62) rfl ?_
  refine v_iconst hC (v := 0) rfl dX6_comesAs_62 (q := 63) rfl ?_
  refine v_Vv hC lkV_X6_63 (c_X6_put (w := 5) (by first | assumption | omega) (Nat.le_of_ble_eq_true rfl)) rfl (by decide) (k := 47) (by decide) hp_47 rfl rfl (Nat.le_of_ble_eq_true rfl) dX6_comesAs_63 (q := 66) rfl ?_
  rintro _ rfl
  refine v_aload_n hC rfl dX6_comesAs_66 (q := 67) rfl ?_
  refine v_iload hC rfl dX6_comesAs_67 (q := 69) rfl ?_
  refine v_bipush hC (v := 6) rfl dX6_comesAs_69 (q := 71) rfl ?_
  refine v_iconst hC (v := 0) rfl dX6_comesAs_71 (q := 72) rfl ?_
  refine v_Vv hC lkV_X6_63 (c_X6_put (w := 6) (by first | assumption | omega) (Nat.le_of_ble_eq_true rfl)) rfl (by decide) (k := 47) (by decide) hp_47 rfl rfl (Nat.le_of_ble_eq_true rfl) dX6_comesAs_72 (q := 75) rfl ?_
  rintro _ rfl
  refine v_iload hC rfl dX6_comesAs_75 (q := 77) rfl ?_
  refine hR _ _ _ _ ?_ dX6_comesAs_77
  exact ⟨rfl, rfl⟩

set_option maxHeartbeats 4000000 in
set_option maxRecDepth 100000 in
theorem c_X6_isGround {l : Launch} {X : Gx} {S : CS} {i m : Nat → Int32} {r : Nat → Nat → Int32} {c : Nat → Int64} {p : Nat} (h1 : p < 8) : Ci l X yX6_isGround cX6_isGround 2 (some .int) (rmk 2 45) [.ref (ga X 47), .int (nI p)] (hp X S (i, m, r, c)) (fun z g => z = grindF (pv m p) ∧ g = hp X S (i, groundM m p, r, c)) := by
  refine ct_i (own := RX6) (lv := [some (.ref (ga X 47)), some (.int (nI p))]) (by decide) rfl (Nat.le_of_ble_eq_true rfl) (Nat.le_of_ble_eq_true rfl) rfl (fun C hC hR => ?_)
  refine v_aload_n hC rfl dX6_isGround_0 (q := 1) rfl ?_
  refine v_iload_n hC rfl dX6_isGround_1 (q := 2) rfl ?_
  refine v_iconst hC (v := 5) rfl dX6_isGround_2 (q := 3) rfl ?_
  refine v_aload_n hC rfl dX6_isGround_3 (q := 4) rfl ?_
  refine v_iload_n hC rfl dX6_isGround_4 (q := 5) rfl ?_
  refine v_Vi hC lkV_X6_71 (c_X6_grinds (by omega)) rfl (by decide) (k := 47) (by decide) hp_47 rfl rfl (Nat.le_of_ble_eq_true rfl) dX6_isGround_5 (q := 8) rfl ?_
  rintro _ _ ⟨rfl, rfl⟩
  refine v_Vv hC lkV_X6_63 (c_X6_put (w := 5) (by first | assumption | omega) (Nat.le_of_ble_eq_true rfl)) rfl (by decide) (k := 47) (by decide) hp_47 rfl rfl (Nat.le_of_ble_eq_true rfl) dX6_isGround_8 (q := 11) rfl ?_
  rintro _ rfl
  refine v_aload_n hC rfl dX6_isGround_11 (q := 12) rfl ?_
  refine v_iload_n hC rfl dX6_isGround_12 (q := 13) rfl ?_
  refine v_iconst hC (v := 4) rfl dX6_isGround_13 (q := 14) rfl ?_
  refine v_aload_n hC rfl dX6_isGround_14 (q := 15) rfl ?_
  refine v_iload_n hC rfl dX6_isGround_15 (q := 16) rfl ?_
  refine v_iconst hC (v := 2) rfl dX6_isGround_16 (q := 17) rfl ?_
  refine v_Vi hC lkV_X6_49 (c_X6_it (w := 2) (by first | assumption | omega) (Nat.le_of_ble_eq_true rfl)) rfl (by decide) (k := 47) (by decide) hp_47 rfl rfl (Nat.le_of_ble_eq_true rfl) dX6_isGround_17 (q := 20) rfl ?_
  rintro _ _ ⟨rfl, rfl⟩
  refine v_Vv hC lkV_X6_63 (c_X6_put (w := 4) (by first | assumption | omega) (Nat.le_of_ble_eq_true rfl)) rfl (by decide) (k := 47) (by decide) hp_47 rfl rfl (Nat.le_of_ble_eq_true rfl) dX6_isGround_20 (q := 23) rfl ?_
  rintro _ rfl
  refine v_aload_n hC rfl dX6_isGround_23 (q := 24) rfl ?_
  refine v_iload_n hC rfl dX6_isGround_24 (q := 25) rfl ?_
  refine v_bipush hC (v := 6) rfl dX6_isGround_25 (q := 27) rfl ?_
  refine v_iconst hC (v := 0) rfl dX6_isGround_27 (q := 28) rfl ?_
  refine v_Vv hC lkV_X6_63 (c_X6_put (w := 6) (by first | assumption | omega) (Nat.le_of_ble_eq_true rfl)) rfl (by decide) (k := 47) (by decide) hp_47 rfl rfl (Nat.le_of_ble_eq_true rfl) dX6_isGround_28 (q := 31) rfl ?_
  rintro _ rfl
  refine v_aload_n hC rfl dX6_isGround_31 (q := 32) rfl ?_
  refine v_iload_n hC rfl dX6_isGround_32 (q := 33) rfl ?_
  refine v_iconst hC (v := 3) rfl dX6_isGround_33 (q := 34) rfl ?_
  refine v_iconst hC (v := 0) rfl dX6_isGround_34 (q := 35) rfl ?_
  refine v_Vv hC lkV_X6_63 (c_X6_put (w := 3) (by first | assumption | omega) (Nat.le_of_ble_eq_true rfl)) rfl (by decide) (k := 47) (by decide) hp_47 rfl rfl (Nat.le_of_ble_eq_true rfl) dX6_isGround_35 (q := 38) rfl ?_
  rintro _ rfl
  refine v_aload_n hC rfl dX6_isGround_38 (q := 39) rfl ?_
  refine v_iload_n hC rfl dX6_isGround_39 (q := 40) rfl ?_
  refine v_iconst hC (v := 5) rfl dX6_isGround_40 (q := 41) rfl ?_
  refine v_Vi hC lkV_X6_49 (c_X6_it (w := 5) (by first | assumption | omega) (Nat.le_of_ble_eq_true rfl)) rfl (by decide) (k := 47) (by decide) hp_47 rfl rfl (Nat.le_of_ble_eq_true rfl) dX6_isGround_41 (q := 44) rfl ?_
  rintro _ _ ⟨rfl, rfl⟩
  refine hR _ _ _ _ ?_ dX6_isGround_44
  refine ⟨?_, ?_⟩
  · simp [pv_pu, upd]
  · simp [groundM, pv_pu, upd]
