set_option maxHeartbeats 4000000 in
set_option maxRecDepth 100000 in
theorem c_X3_add {l : Launch} {X : Gx} {M : MS} {q nu : Nat → Nat → Int32} {vc : Nat → Nat → Nat → Int32} {sb : Nat → Nat → Int32} {by_ : Nat → Int32} {sh : Nat → Nat → Int32} {nn : Nat → Nat → Int64} {fo : Nat → Int32} {kp : Int32} {t1 t2 t3 : Int32} {L : Nat} (hL : L < 120) {x : Int32} : Cv l X yX3_add cX3_add 2 (none) (rmk 0 0) [.ref (ga X 35), .int x] (ch X M q nu vc sb (iv [nI L, t1, t2, t3]) by_ sh nn fo kp) (fun g => g = ch X M q nu vc sb (iv [nI (L + 1), t1, t2, t3]) (upd by_ L x) sh nn fo kp) := by
  refine ct_v (own := RX3) (lv := [some (.ref (ga X 35)), some (.int x)]) (by decide) rfl (Nat.le_of_ble_eq_true rfl) (Nat.le_of_ble_eq_true rfl) rfl (fun C hC hR => ?_)
  refine v_aload_n hC rfl dX3_add_0 (q := 1) rfl ?_
  refine v_get hC fl_X3_9 (k := 35) (by decide) ch_35v rfl dX3_add_1 (q := 4) rfl ?_
  refine v_aload_n hC rfl dX3_add_4 (q := 5) rfl ?_
  refine v_get hC fl_X3_15 (k := 35) (by decide) ch_35v rfl dX3_add_5 (q := 8) rfl ?_
  refine v_iload_n hC rfl dX3_add_8 (q := 9) rfl ?_
  refine v_iast hC (k := 36) (by decide) ch_36 (ix120' (by omega)) (j := L) (nI_clamp (by omega)) (ch_by _) dX3_add_9 (q := 10) rfl ?_
  refine v_aload_n hC rfl dX3_add_10 (q := 11) rfl ?_
  refine v_dup hC rfl dX3_add_11 (q := 12) rfl ?_
  refine v_get hC fl_X3_15 (k := 35) (by decide) ch_35v rfl dX3_add_12 (q := 15) rfl ?_
  refine v_iconst hC (v := 1) rfl dX3_add_15 (q := 16) rfl ?_
  refine v_iadd hC dX3_add_16 (q := 17) rfl ?_
  refine v_put hC fl_X3_15 pt_3_1 (k := 35) (by decide) ch_35v (Nat.le_of_ble_eq_true rfl) rfl rfl (ch_t0 _) dX3_add_17 (q := 20) rfl ?_
  refine hR _ _ _ ?_ dX3_add_20
  rw [nI_1]

theorem byt_u (b : Int32) {k : Nat} (hk : k < 4) : ((b.toUInt32 >>> ((8 * nI k).toUInt32 &&& Int32.toUInt32 31)).toInt32) &&& 255 = bytB b k := by
  have e8 : (8 : Int32) * nI k = nI (8 * k) := by rw [show (8 : Int32) = nI 8 from rfl, pk_mul]
  rw [bytB, e8]
  refine b_ext (fun i hi => ?_)
  rw [b_and, b_and, b_255, b_ushr (8 * k) (by omega), b_sshr (8 * k) (by omega) b hi]
  by_cases h : i < 8
  · rw [if_pos (by omega)]
  · rw [decide_eq_false h, Bool.and_false, Bool.and_false]
set_option maxHeartbeats 4000000 in
set_option maxRecDepth 100000 in
theorem c_X5_feed {l : Launch} {X : Gx} {M : MS} {q nu : Nat → Nat → Int32} {vc : Nat → Nat → Nat → Int32} {sb : Nat → Nat → Int32} {by_ : Nat → Int32} {sh : Nat → Nat → Int32} {nn : Nat → Nat → Int64} {fo : Nat → Int32} {kp : Int32} {t1 t2 t3 : Int32} {T : Nat} (hT0 : T ≤ 120) {b n : Int32} : Ci l X yX5_feed cX5_feed 4 (some .int) (rmk 1 22) [.ref (ga X 0), .int b, .int n] (ch X M q nu vc sb (iv [nI T, t1, t2, t3]) by_ sh nn fo kp) (fun z g => z = ansI (S_feed T n) ∧ g = ch X M q nu vc sb (iv [nI (T_feed T n), t1, t2, t3]) (R_feed by_ T b n) sh nn (fnF fo (S_feed T n)) kp) := by
  refine ct_i (own := RX5) (lv := [some (.ref (ga X 0)), some (.int b), some (.int n), none]) (by decide) rfl (Nat.le_of_ble_eq_true rfl) (Nat.le_of_ble_eq_true rfl) rfl (fun C hC hR => ?_)
  have main : ∀ N, 1 ≤ N → N ≤ 4 → T + N ≤ 120 → n = nI N → (1 ≤ n ∧ n ≤ 4) → nI T + n ≤ 120 → V l X (rmk 1 22) C (ch X M q nu vc sb (iv [nI (T + (N - N)), t1, t2, t3]) (fdR by_ T b N (N - N)) sh nn fo kp) 42 [some (.ref (ga X 0)), some (.int b), some (.int (nI N)), some (.int (nI N + (-1)))] [] := by
    intro N h1 h4 hT hn hc1 hc2
    have hcl : (nI N).toNatClampNeg = N := nI_clamp (by omega)
    have loop : ∀ d, d ≤ N → V l X (rmk 1 22) C (ch X M q nu vc sb (iv [nI (T + (N - d)), t1, t2, t3]) (fdR by_ T b N (N - d)) sh nn fo kp) 42 [some (.ref (ga X 0)), some (.int b), some (.int (nI N)), some (.int (nI d + (-1)))] [] := by
      intro d
      induction d with
      | zero =>
        intro _
        refine v_iload_n hC rfl dX5_feed_42 (q := 43) rfl ?_
        refine v_if_lt hC dX5_feed_43 (t := 69) rfl (q := 46) rfl (fun _ => ?_) (fun h => absurd (by decide) h)
        refine v_aload_n hC rfl dX5_feed_69 (q := 70) rfl ?_
        refine v_get hC fl_X5_32 (k := 0) (by decide) ch_0 rfl dX5_feed_70 (q := 73) rfl ?_
        refine v_getN hC nl_X5_194 (k := 35) (by decide) ch_35v rfl dX5_feed_73 (q := 76) rfl ?_
        refine hR _ _ _ _ ?_ dX5_feed_76
        subst hn
        refine ⟨?_, ?_⟩
        · rw [S_feed, if_pos hc1, if_pos hc2, ansI, nI_add]; rfl
        · simp only [S_feed, R_feed, T_feed, if_pos hc1, if_pos hc2, fnF, hcl]; rfl
      | succ d ih =>
        intro hd
        rw [pk_m1]
        refine v_iload_n hC rfl dX5_feed_42 (q := 43) rfl ?_
        refine v_if_lt hC dX5_feed_43 (t := 69) rfl (q := 46) rfl (fun h => absurd h (nI_pos (by omega))) (fun _ => ?_)
        refine v_aload_n hC rfl dX5_feed_46 (q := 47) rfl ?_
        refine v_get hC fl_X5_32 (k := 0) (by decide) ch_0 rfl dX5_feed_47 (q := 50) rfl ?_
        refine v_iload_n hC rfl dX5_feed_50 (q := 51) rfl ?_
        refine v_bipush hC (v := 8) rfl dX5_feed_51 (q := 53) rfl ?_
        refine v_iload_n hC rfl dX5_feed_53 (q := 54) rfl ?_
        refine v_imul hC dX5_feed_54 (q := 55) rfl ?_
        refine v_iushr hC dX5_feed_55 (q := 56) rfl ?_
        refine v_sipush hC (v := 255) rfl dX5_feed_56 (q := 59) rfl ?_
        refine v_iand hC dX5_feed_59 (q := 60) rfl ?_
        rw [byt_u b (by omega)]
        refine v_Vv hC lkV_X5_197 (c_X3_add (L := T + (N - (d + 1))) (by omega)) rfl (by decide) (k := 35) (by decide) ch_35v rfl rfl (Nat.le_of_ble_eq_true rfl) dX5_feed_60 (q := 63) rfl ?_
        rintro _ rfl
        refine v_iinc_3 hC (v := _ + (-1)) rfl (iinc_m1 _) dX5_feed_63 (q := 66) rfl ?_
        refine v_goto hC dX5_feed_66 (t := 42) rfl ?_
        refine v_same ?_ rfl rfl (ih (by omega))
        rw [show T + (N - (d + 1)) + 1 = T + (N - d) by omega, show N - d = (N - (d + 1)) + 1 by omega, fdR, show N - 1 - (N - (d + 1)) = d by omega]
    exact loop N (Nat.le_refl _)
  refine v_iload_n hC rfl dX5_feed_0 (q := 1) rfl ?_
  refine v_iconst hC (v := 1) rfl dX5_feed_1 (q := 2) rfl ?_
  refine v_icmp_lt hC dX5_feed_2 (t := 10) rfl (q := 5) rfl (fun h2 => ?_) (fun h2 => ?_)
  · refine v_aload_n hC rfl dX5_feed_10 (q := 11) rfl ?_
    refine v_ldc hC wk_X5_55 dX5_feed_11 (q := 13) rfl ?_
    refine v_Vi hC lkV_X5_56 (c_X5_finding (n := 0) (by decide)) rfl (by decide) (k := 0) (by decide) ch_0 rfl rfl (Nat.le_of_ble_eq_true rfl) dX5_feed_13 (q := 16) rfl ?_
    rintro _ _ ⟨rfl, rfl⟩
    refine hR _ _ _ _ ?_ dX5_feed_16
    have hk : ¬ (1 ≤ n ∧ n ≤ 4) := fun z => Int32.not_le.mpr h2 z.1
    refine ⟨?_, ?_⟩
    · simp only [S_feed, if_neg hk, ansI]
    · simp only [S_feed, R_feed, T_feed, if_neg hk, fnF]
  · refine v_iload_n hC rfl dX5_feed_5 (q := 6) rfl ?_
    refine v_iconst hC (v := 4) rfl dX5_feed_6 (q := 7) rfl ?_
    refine v_icmp_le hC dX5_feed_7 (t := 17) rfl (q := 10) rfl (fun h7 => ?_) (fun h7 => ?_)
    · refine v_aload_n hC rfl dX5_feed_17 (q := 18) rfl ?_
      refine v_get hC fl_X5_32 (k := 0) (by decide) ch_0 rfl dX5_feed_18 (q := 21) rfl ?_
      refine v_getN hC nl_X5_194 (k := 35) (by decide) ch_35v rfl dX5_feed_21 (q := 24) rfl ?_
      refine v_iload_n hC rfl dX5_feed_24 (q := 25) rfl ?_
      refine v_iadd hC dX5_feed_25 (q := 26) rfl ?_
      refine v_bipush hC (v := 120) rfl dX5_feed_26 (q := 28) rfl ?_
      refine v_icmp_le hC dX5_feed_28 (t := 38) rfl (q := 31) rfl (fun h28 => ?_) (fun h28 => ?_)
      · obtain ⟨N, hN1, hN4, hn⟩ := w_of' (a := 1) (N := 4) (by decide) (by decide) (Int32.not_lt.mp h2) h7
        have hTN : T + N ≤ 120 := by
          have := h28
          rw [hn, nI_add] at this
          exact (nI_leI (b := 120) (by omega) (by decide)).mp this
        refine v_iload_n hC rfl dX5_feed_38 (q := 39) rfl ?_
        refine v_iconst hC (v := 1) rfl dX5_feed_39 (q := 40) rfl ?_
        refine v_isub hC dX5_feed_40 (q := 41) rfl ?_
        refine v_istore_3 hC rfl dX5_feed_41 (q := 42) rfl ?_
        subst hn
        refine v_same ?_ ?_ rfl (main N hN1 hN4 hTN rfl ⟨Int32.not_lt.mp h2, h7⟩ h28)
        · rw [Nat.sub_self]
          simp only [Nat.add_zero, fdR]
        · rw [n_sub hN1]
      · refine v_aload_n hC rfl dX5_feed_31 (q := 32) rfl ?_
        refine v_ldc hC wk_X5_64 dX5_feed_32 (q := 34) rfl ?_
        refine v_Vi hC lkV_X5_56 (c_X5_finding (n := 1) (by decide)) rfl (by decide) (k := 0) (by decide) ch_0 rfl rfl (Nat.le_of_ble_eq_true rfl) dX5_feed_34 (q := 37) rfl ?_
        rintro _ _ ⟨rfl, rfl⟩
        refine hR _ _ _ _ ?_ dX5_feed_37
        have hk : 1 ≤ n ∧ n ≤ 4 := ⟨Int32.not_lt.mp h2, h7⟩
        refine ⟨?_, ?_⟩
        · simp only [S_feed, if_pos hk, if_neg h28, ansI]
        · simp only [S_feed, R_feed, T_feed, if_pos hk, if_neg h28, fnF]
    · refine v_aload_n hC rfl dX5_feed_10 (q := 11) rfl ?_
      refine v_ldc hC wk_X5_55 dX5_feed_11 (q := 13) rfl ?_
      refine v_Vi hC lkV_X5_56 (c_X5_finding (n := 0) (by decide)) rfl (by decide) (k := 0) (by decide) ch_0 rfl rfl (Nat.le_of_ble_eq_true rfl) dX5_feed_13 (q := 16) rfl ?_
      rintro _ _ ⟨rfl, rfl⟩
      refine hR _ _ _ _ ?_ dX5_feed_16
      have hk : ¬ (1 ≤ n ∧ n ≤ 4) := fun z => h7 z.2
      refine ⟨?_, ?_⟩
      · simp only [S_feed, if_neg hk, ansI]
      · simp only [S_feed, R_feed, T_feed, if_neg hk, fnF]

set_option maxHeartbeats 4000000 in
set_option maxRecDepth 100000 in
theorem c_X5_wipe {l : Launch} {X : Gx} {M : MS} {q nu : Nat → Nat → Int32} {vc : Nat → Nat → Nat → Int32} {sb : Nat → Nat → Int32} {by_ : Nat → Int32} {sh : Nat → Nat → Int32} {nn : Nat → Nat → Int64} {fo : Nat → Int32} {kp : Int32} {t0 t1 t2 t3 : Int32} : Ci l X yX5_wipe cX5_wipe 2 (some .int) (rmk 0 0) [.ref (ga X 0)] (ch X M q nu vc sb (iv [t0, t1, t2, t3]) by_ sh nn fo kp) (fun z g => z = t0 ∧ g = ch X M q nu vc sb (iv [0, t1, t2, t3]) by_ sh nn fo kp) := by
  refine ct_i (own := RX5) (lv := [some (.ref (ga X 0)), none]) (by decide) rfl (Nat.le_of_ble_eq_true rfl) (Nat.le_of_ble_eq_true rfl) rfl (fun C hC hR => ?_)
  refine v_aload_n hC rfl dX5_wipe_0 (q := 1) rfl ?_
  refine v_get hC fl_X5_32 (k := 0) (by decide) ch_0 rfl dX5_wipe_1 (q := 4) rfl ?_
  refine v_getN hC nl_X5_194 (k := 35) (by decide) ch_35v rfl dX5_wipe_4 (q := 7) rfl ?_
  refine v_istore_1 hC rfl dX5_wipe_7 (q := 8) rfl ?_
  refine v_aload_n hC rfl dX5_wipe_8 (q := 9) rfl ?_
  refine v_get hC fl_X5_32 (k := 0) (by decide) ch_0 rfl dX5_wipe_9 (q := 12) rfl ?_
  refine v_iconst hC (v := 0) rfl dX5_wipe_12 (q := 13) rfl ?_
  refine v_putN hC nl_X5_194 pt_3_1 (k := 35) (by decide) ch_35v (Nat.le_of_ble_eq_true rfl) rfl rfl (ch_t0 _) dX5_wipe_13 (q := 16) rfl ?_
  refine v_iload_n hC rfl dX5_wipe_16 (q := 17) rfl ?_
  refine hR _ _ _ _ ?_ dX5_wipe_17
  exact ⟨rfl, rfl⟩

set_option maxHeartbeats 4000000 in
set_option maxRecDepth 100000 in
theorem c_X3_isLetter {l : Launch} {X : Gx} {f : Hp} {x : Int32} : Ci l X yX3_isLetter cX3_isLetter 1 (some .boolean) (rmk 0 0) [.int x] (f) (fun z g => ((97 ≤ x ∧ x ≤ 122) ∧ z = 1 ∨ ¬ (97 ≤ x ∧ x ≤ 122) ∧ z = 0) ∧ g = f) := by
  refine ct_z (own := RX3) (lv := [some (.int x)]) (by decide) rfl (Nat.le_of_ble_eq_true rfl) (Nat.le_of_ble_eq_true rfl) rfl (fun C hC hR => ?_)
  refine v_iload_n hC rfl dX3_isLetter_0 (q := 1) rfl ?_
  refine v_bipush hC (v := 97) rfl dX3_isLetter_1 (q := 3) rfl ?_
  refine v_icmp_lt hC dX3_isLetter_3 (t := 16) rfl (q := 6) rfl (fun h3 => ?_) (fun h3 => ?_)
  · refine v_iconst hC (v := 0) rfl dX3_isLetter_16 (q := 17) rfl ?_
    refine hR _ _ _ _ ?_ (by first | rfl | decide | assumption) dX3_isLetter_17
    exact ⟨Or.inr ⟨fun z => Int32.not_le.mpr h3 z.1, rfl⟩, rfl⟩
  · refine v_iload_n hC rfl dX3_isLetter_6 (q := 7) rfl ?_
    refine v_bipush hC (v := 122) rfl dX3_isLetter_7 (q := 9) rfl ?_
    refine v_icmp_gt hC dX3_isLetter_9 (t := 16) rfl (q := 12) rfl (fun h9 => ?_) (fun h9 => ?_)
    · refine v_iconst hC (v := 0) rfl dX3_isLetter_16 (q := 17) rfl ?_
      refine hR _ _ _ _ ?_ (by first | rfl | decide | assumption) dX3_isLetter_17
      exact ⟨Or.inr ⟨fun z => Int32.not_le.mpr h9 z.2, rfl⟩, rfl⟩
    · refine v_iconst hC (v := 1) rfl dX3_isLetter_12 (q := 13) rfl ?_
      refine v_goto hC dX3_isLetter_13 (t := 17) rfl ?_
      refine hR _ _ _ _ ?_ (by first | rfl | decide | assumption) dX3_isLetter_17
      exact ⟨Or.inl ⟨⟨Int32.not_lt.mp h3, Int32.not_lt.mp h9⟩, rfl⟩, rfl⟩

set_option maxHeartbeats 4000000 in
set_option maxRecDepth 100000 in
theorem c_X3_isDigit {l : Launch} {X : Gx} {f : Hp} {x : Int32} : Ci l X yX3_isDigit cX3_isDigit 1 (some .boolean) (rmk 0 0) [.int x] (f) (fun z g => ((48 ≤ x ∧ x ≤ 57) ∧ z = 1 ∨ ¬ (48 ≤ x ∧ x ≤ 57) ∧ z = 0) ∧ g = f) := by
  refine ct_z (own := RX3) (lv := [some (.int x)]) (by decide) rfl (Nat.le_of_ble_eq_true rfl) (Nat.le_of_ble_eq_true rfl) rfl (fun C hC hR => ?_)
  refine v_iload_n hC rfl dX3_isDigit_0 (q := 1) rfl ?_
  refine v_bipush hC (v := 48) rfl dX3_isDigit_1 (q := 3) rfl ?_
  refine v_icmp_lt hC dX3_isDigit_3 (t := 16) rfl (q := 6) rfl (fun h3 => ?_) (fun h3 => ?_)
  · refine v_iconst hC (v := 0) rfl dX3_isDigit_16 (q := 17) rfl ?_
    refine hR _ _ _ _ ?_ (by first | rfl | decide | assumption) dX3_isDigit_17
    exact ⟨Or.inr ⟨fun z => Int32.not_le.mpr h3 z.1, rfl⟩, rfl⟩
  · refine v_iload_n hC rfl dX3_isDigit_6 (q := 7) rfl ?_
    refine v_bipush hC (v := 57) rfl dX3_isDigit_7 (q := 9) rfl ?_
    refine v_icmp_gt hC dX3_isDigit_9 (t := 16) rfl (q := 12) rfl (fun h9 => ?_) (fun h9 => ?_)
    · refine v_iconst hC (v := 0) rfl dX3_isDigit_16 (q := 17) rfl ?_
      refine hR _ _ _ _ ?_ (by first | rfl | decide | assumption) dX3_isDigit_17
      exact ⟨Or.inr ⟨fun z => Int32.not_le.mpr h9 z.2, rfl⟩, rfl⟩
    · refine v_iconst hC (v := 1) rfl dX3_isDigit_12 (q := 13) rfl ?_
      refine v_goto hC dX3_isDigit_13 (t := 17) rfl ?_
      refine hR _ _ _ _ ?_ (by first | rfl | decide | assumption) dX3_isDigit_17
      exact ⟨Or.inl ⟨⟨Int32.not_lt.mp h3, Int32.not_lt.mp h9⟩, rfl⟩, rfl⟩

def tkC (t : Nat → Int32) (T p : Nat) : Int32 := if tkS t T p = T then 0 else if isL t (tkS t T p) then 1 else if isD t (tkS t T p) then 2 else if t (tkS t T p) = 59 then 3 else 4
theorem isB_iff {t : Nat → Int32} {k : Nat} : isB t k = true ↔ t k = 32 := by
  rw [isB, decide_eq_true_eq]
  constructor
  · rintro ⟨h1, h2⟩; exact Int32.le_antisymm h2 h1
  · intro h; rw [h]; exact ⟨by decide, by decide⟩
theorem isL_iff {t : Nat → Int32} {k : Nat} : isL t k = true ↔ (97 ≤ t k ∧ t k ≤ 122) := by rw [isL, decide_eq_true_eq]
theorem isD_iff {t : Nat → Int32} {k : Nat} : isD t k = true ↔ (48 ≤ t k ∧ t k ≤ 57) := by rw [isD, decide_eq_true_eq]
theorem tv_t3 {x : Int32} {A B : List Int32} (h : A = B) : iv A = iv B := by rw [h]
set_option maxHeartbeats 4000000 in
set_option maxRecDepth 100000 in
theorem c_X3_step {l : Launch} {X : Gx} {M : MS} {q nu : Nat → Nat → Int32} {vc : Nat → Nat → Nat → Int32} {sb : Nat → Nat → Int32} {by_ : Nat → Int32} {sh : Nat → Nat → Int32} {nn : Nat → Nat → Int64} {fo : Nat → Int32} {kp : Int32} {T : Nat} (hT : T ≤ 120) {p : Nat} (hp1 : p ≤ T) {t1 t2 : Int32} : Cv l X yX3_step cX3_step 1 (none) (rmk 1 20) [.ref (ga X 35)] (ch X M q nu vc sb (iv [nI T, t1, t2, nI p]) by_ sh nn fo kp) (fun g => g = ch X M q nu vc sb (iv [nI T, tkC by_ T (p), nI (tkS by_ T (p)), nI (tkE by_ T (p))]) by_ sh nn fo kp) := by
  refine ct_v (own := RX3) (lv := [some (.ref (ga X 35))]) (by decide) rfl (Nat.le_of_ble_eq_true rfl) (Nat.le_of_ble_eq_true rfl) rfl (fun C hC hR => ?_)
  have hs := tkS_le (t := by_) hp1
  have hsE : tkS by_ T p ≤ T := hs.2
  have lw : tkS by_ T p < T → isL by_ (tkS by_ T p) = true → V l X (rmk 1 20) C (ch X M q nu vc sb (iv [nI T, 1, nI (tkS by_ T p), nI (tkS by_ T p)]) by_ sh nn fo kp) 93 [some (.ref (ga X 35))] [] := by
    intro hlt hL
    have hne : ¬ tkS by_ T p = T := by omega
    have hle := enW_le (t := by_) hsE
    have fin : V l X (rmk 1 20) C (ch X M q nu vc sb (iv [nI T, 1, nI (tkS by_ T p), nI (enW by_ T (tkS by_ T p))]) by_ sh nn fo kp) 224 [some (.ref (ga X 35))] [] := by
      refine hR _ _ _ ?_ dX3_step_224
      refine congrArg (fun z => ch X M q nu vc sb (iv z) by_ sh nn fo kp) ?_
      simp [tkC, tkE, hne, hL]
    have loop : ∀ j, j ≤ T → tkS by_ T p ≤ j → enW by_ T (tkS by_ T p) = skF (isL by_) (T - j) j → V l X (rmk 1 20) C (ch X M q nu vc sb (iv [nI T, 1, nI (tkS by_ T p), nI j]) by_ sh nn fo kp) 93 [some (.ref (ga X 35))] [] := by
      refine v_up T ?_ ?_
      · intro hj0 hI
        rw [Nat.sub_self, skF] at hI
        refine v_aload_n hC rfl dX3_step_93 (q := 94) rfl ?_
        refine v_get hC fl_X3_25 (k := 35) (by decide) ch_35v rfl dX3_step_94 (q := 97) rfl ?_
        refine v_aload_n hC rfl dX3_step_97 (q := 98) rfl ?_
        refine v_get hC fl_X3_15 (k := 35) (by decide) ch_35v rfl dX3_step_98 (q := 101) rfl ?_
        refine v_icmp_ge hC dX3_step_101 (t := 224) rfl (q := 104) rfl (fun _ => ?_) (fun h => absurd (Int32.le_refl _) h)
        rw [hI] at fin
        exact fin
      · intro j hj ih hj0 hI
        rw [show T - j = (T - (j + 1)) + 1 by omega, skF] at hI
        refine v_aload_n hC rfl dX3_step_93 (q := 94) rfl ?_
        refine v_get hC fl_X3_25 (k := 35) (by decide) ch_35v rfl dX3_step_94 (q := 97) rfl ?_
        refine v_aload_n hC rfl dX3_step_97 (q := 98) rfl ?_
        refine v_get hC fl_X3_15 (k := 35) (by decide) ch_35v rfl dX3_step_98 (q := 101) rfl ?_
        refine v_icmp_ge hC dX3_step_101 (t := 224) rfl (q := 104) rfl (fun h => absurd h (nI_ge hj (by omega))) (fun _ => ?_)
        refine v_aload_n hC rfl dX3_step_104 (q := 105) rfl ?_
        refine v_get hC fl_X3_9 (k := 35) (by decide) ch_35v rfl dX3_step_105 (q := 108) rfl ?_
        refine v_aload_n hC rfl dX3_step_108 (q := 109) rfl ?_
        refine v_get hC fl_X3_25 (k := 35) (by decide) ch_35v rfl dX3_step_109 (q := 112) rfl ?_
        refine v_iald hC (k := 36) (by decide) ch_36 (ix120' (by omega)) (j := j) (nI_clamp (by omega)) dX3_step_112 (q := 113) rfl ?_
        refine v_Si hC lkS_X3_31 c_X3_isLetter rfl (by decide) rfl (Nat.le_of_ble_eq_true rfl) dX3_step_113 (q := 116) rfl ?_
        rintro _ _ ⟨⟨hc113, rfl⟩ | ⟨hc113, rfl⟩, rfl⟩
        · refine v_if_eq hC dX3_step_116 (t := 224) rfl (q := 119) rfl (fun h => absurd h (by decide)) (fun _ => ?_)
          refine v_aload_n hC rfl dX3_step_119 (q := 120) rfl ?_
          refine v_dup hC rfl dX3_step_120 (q := 121) rfl ?_
          refine v_get hC fl_X3_25 (k := 35) (by decide) ch_35v rfl dX3_step_121 (q := 124) rfl ?_
          refine v_iconst hC (v := 1) rfl dX3_step_124 (q := 125) rfl ?_
          refine v_iadd hC dX3_step_125 (q := 126) rfl ?_
          refine v_put hC fl_X3_25 pt_3_4 (k := 35) (by decide) ch_35v (Nat.le_of_ble_eq_true rfl) rfl rfl (ch_t3 _) dX3_step_126 (q := 129) rfl ?_
          refine v_goto hC dX3_step_129 (t := 93) rfl ?_
          have hb : isL by_ j = true := isL_iff.mpr hc113
          rw [if_pos hb] at hI
          rw [nI_1]
          exact ih (by omega) hI
        · refine v_if_eq hC dX3_step_116 (t := 224) rfl (q := 119) rfl (fun _ => ?_) (fun h => absurd h (by decide))
          have hb : ¬ isL by_ j = true := fun z => hc113 (isL_iff.mp z)
          rw [if_neg hb] at hI
          rw [hI] at fin
          exact fin
    exact loop _ hsE (Nat.le_refl _) rfl
  have ld : tkS by_ T p < T → ¬ isL by_ (tkS by_ T p) = true → isD by_ (tkS by_ T p) = true → V l X (rmk 1 20) C (ch X M q nu vc sb (iv [nI T, 2, nI (tkS by_ T p), nI (tkS by_ T p)]) by_ sh nn fo kp) 152 [some (.ref (ga X 35))] [] := by
    intro hlt hL hD
    have hne : ¬ tkS by_ T p = T := by omega
    have hle := enD_le (t := by_) hsE
    have fin : V l X (rmk 1 20) C (ch X M q nu vc sb (iv [nI T, 2, nI (tkS by_ T p), nI (enD by_ T (tkS by_ T p))]) by_ sh nn fo kp) 224 [some (.ref (ga X 35))] [] := by
      refine hR _ _ _ ?_ dX3_step_224
      refine congrArg (fun z => ch X M q nu vc sb (iv z) by_ sh nn fo kp) ?_
      simp [tkC, tkE, hne, hL, hD]
    have loop : ∀ j, j ≤ T → tkS by_ T p ≤ j → enD by_ T (tkS by_ T p) = skF (isD by_) (T - j) j → V l X (rmk 1 20) C (ch X M q nu vc sb (iv [nI T, 2, nI (tkS by_ T p), nI j]) by_ sh nn fo kp) 152 [some (.ref (ga X 35))] [] := by
      refine v_up T ?_ ?_
      · intro hj0 hI
        rw [Nat.sub_self, skF] at hI
        refine v_aload_n hC rfl dX3_step_152 (q := 153) rfl ?_
        refine v_get hC fl_X3_25 (k := 35) (by decide) ch_35v rfl dX3_step_153 (q := 156) rfl ?_
        refine v_aload_n hC rfl dX3_step_156 (q := 157) rfl ?_
        refine v_get hC fl_X3_15 (k := 35) (by decide) ch_35v rfl dX3_step_157 (q := 160) rfl ?_
        refine v_icmp_ge hC dX3_step_160 (t := 224) rfl (q := 163) rfl (fun _ => ?_) (fun h => absurd (Int32.le_refl _) h)
        rw [hI] at fin
        exact fin
      · intro j hj ih hj0 hI
        rw [show T - j = (T - (j + 1)) + 1 by omega, skF] at hI
        refine v_aload_n hC rfl dX3_step_152 (q := 153) rfl ?_
        refine v_get hC fl_X3_25 (k := 35) (by decide) ch_35v rfl dX3_step_153 (q := 156) rfl ?_
        refine v_aload_n hC rfl dX3_step_156 (q := 157) rfl ?_
        refine v_get hC fl_X3_15 (k := 35) (by decide) ch_35v rfl dX3_step_157 (q := 160) rfl ?_
        refine v_icmp_ge hC dX3_step_160 (t := 224) rfl (q := 163) rfl (fun h => absurd h (nI_ge hj (by omega))) (fun _ => ?_)
        refine v_aload_n hC rfl dX3_step_163 (q := 164) rfl ?_
        refine v_get hC fl_X3_9 (k := 35) (by decide) ch_35v rfl dX3_step_164 (q := 167) rfl ?_
        refine v_aload_n hC rfl dX3_step_167 (q := 168) rfl ?_
        refine v_get hC fl_X3_25 (k := 35) (by decide) ch_35v rfl dX3_step_168 (q := 171) rfl ?_
        refine v_iald hC (k := 36) (by decide) ch_36 (ix120' (by omega)) (j := j) (nI_clamp (by omega)) dX3_step_171 (q := 172) rfl ?_
        refine v_Si hC lkS_X3_35 c_X3_isDigit rfl (by decide) rfl (Nat.le_of_ble_eq_true rfl) dX3_step_172 (q := 175) rfl ?_
        rintro _ _ ⟨⟨hc172, rfl⟩ | ⟨hc172, rfl⟩, rfl⟩
        · refine v_if_eq hC dX3_step_175 (t := 224) rfl (q := 178) rfl (fun h => absurd h (by decide)) (fun _ => ?_)
          refine v_aload_n hC rfl dX3_step_178 (q := 179) rfl ?_
          refine v_dup hC rfl dX3_step_179 (q := 180) rfl ?_
          refine v_get hC fl_X3_25 (k := 35) (by decide) ch_35v rfl dX3_step_180 (q := 183) rfl ?_
          refine v_iconst hC (v := 1) rfl dX3_step_183 (q := 184) rfl ?_
          refine v_iadd hC dX3_step_184 (q := 185) rfl ?_
          refine v_put hC fl_X3_25 pt_3_4 (k := 35) (by decide) ch_35v (Nat.le_of_ble_eq_true rfl) rfl rfl (ch_t3 _) dX3_step_185 (q := 188) rfl ?_
          refine v_goto hC dX3_step_188 (t := 152) rfl ?_
          have hb : isD by_ j = true := isD_iff.mpr hc172
          rw [if_pos hb] at hI
          rw [nI_1]
          exact ih (by omega) hI
        · refine v_if_eq hC dX3_step_175 (t := 224) rfl (q := 178) rfl (fun _ => ?_) (fun h => absurd h (by decide))
          have hb : ¬ isD by_ j = true := fun z => hc172 (isD_iff.mp z)
          rw [if_neg hb] at hI
          rw [hI] at fin
          exact fin
    exact loop _ hsE (Nat.le_refl _) rfl
  have after : V l X (rmk 1 20) C (ch X M q nu vc sb (iv [nI T, t1, nI (tkS by_ T p), nI p]) by_ sh nn fo kp) 46 [some (.ref (ga X 35))] [] := by
    refine v_aload_n hC rfl dX3_step_46 (q := 47) rfl ?_
    refine v_aload_n hC rfl dX3_step_47 (q := 48) rfl ?_
    refine v_get hC fl_X3_22 (k := 35) (by decide) ch_35v rfl dX3_step_48 (q := 51) rfl ?_
    refine v_put hC fl_X3_25 pt_3_4 (k := 35) (by decide) ch_35v (Nat.le_of_ble_eq_true rfl) rfl rfl (ch_t3 _) dX3_step_51 (q := 54) rfl ?_
    refine v_aload_n hC rfl dX3_step_54 (q := 55) rfl ?_
    refine v_get hC fl_X3_22 (k := 35) (by decide) ch_35v rfl dX3_step_55 (q := 58) rfl ?_
    refine v_aload_n hC rfl dX3_step_58 (q := 59) rfl ?_
    refine v_get hC fl_X3_15 (k := 35) (by decide) ch_35v rfl dX3_step_59 (q := 62) rfl ?_
    refine v_icmp_lt hC dX3_step_62 (t := 73) rfl (q := 65) rfl (fun h62 => ?_) (fun h62 => ?_)
    · have hlt : tkS by_ T p < T := (nI_ltI (by omega) (by omega)).mp h62
      refine v_aload_n hC rfl dX3_step_73 (q := 74) rfl ?_
      refine v_get hC fl_X3_9 (k := 35) (by decide) ch_35v rfl dX3_step_74 (q := 77) rfl ?_
      refine v_aload_n hC rfl dX3_step_77 (q := 78) rfl ?_
      refine v_get hC fl_X3_22 (k := 35) (by decide) ch_35v rfl dX3_step_78 (q := 81) rfl ?_
      refine v_iald hC (k := 36) (by decide) ch_36 (ix120' (by omega)) (j := (tkS by_ T p)) (nI_clamp (by omega)) dX3_step_81 (q := 82) rfl ?_
      refine v_Si hC lkS_X3_31 c_X3_isLetter rfl (by decide) rfl (Nat.le_of_ble_eq_true rfl) dX3_step_82 (q := 85) rfl ?_
      rintro _ _ ⟨⟨hc82, rfl⟩ | ⟨hc82, rfl⟩, rfl⟩
      · refine v_if_eq hC dX3_step_85 (t := 132) rfl (q := 88) rfl (fun h => absurd h (by decide)) (fun _ => ?_)
        refine v_aload_n hC rfl dX3_step_88 (q := 89) rfl ?_
        refine v_iconst hC (v := 1) rfl dX3_step_89 (q := 90) rfl ?_
        refine v_put hC fl_X3_19 pt_3_2 (k := 35) (by decide) ch_35v (Nat.le_of_ble_eq_true rfl) rfl rfl (ch_t1 _) dX3_step_90 (q := 93) rfl ?_
        exact lw hlt (isL_iff.mpr hc82)
      · refine v_if_eq hC dX3_step_85 (t := 132) rfl (q := 88) rfl (fun _ => ?_) (fun h => absurd h (by decide))
        refine v_aload_n hC rfl dX3_step_132 (q := 133) rfl ?_
        refine v_get hC fl_X3_9 (k := 35) (by decide) ch_35v rfl dX3_step_133 (q := 136) rfl ?_
        refine v_aload_n hC rfl dX3_step_136 (q := 137) rfl ?_
        refine v_get hC fl_X3_22 (k := 35) (by decide) ch_35v rfl dX3_step_137 (q := 140) rfl ?_
        refine v_iald hC (k := 36) (by decide) ch_36 (ix120' (by omega)) (j := (tkS by_ T p)) (nI_clamp (by omega)) dX3_step_140 (q := 141) rfl ?_
        refine v_Si hC lkS_X3_35 c_X3_isDigit rfl (by decide) rfl (Nat.le_of_ble_eq_true rfl) dX3_step_141 (q := 144) rfl ?_
        rintro _ _ ⟨⟨hc141, rfl⟩ | ⟨hc141, rfl⟩, rfl⟩
        · refine v_if_eq hC dX3_step_144 (t := 191) rfl (q := 147) rfl (fun h => absurd h (by decide)) (fun _ => ?_)
          refine v_aload_n hC rfl dX3_step_147 (q := 148) rfl ?_
          refine v_iconst hC (v := 2) rfl dX3_step_148 (q := 149) rfl ?_
          refine v_put hC fl_X3_19 pt_3_2 (k := 35) (by decide) ch_35v (Nat.le_of_ble_eq_true rfl) rfl rfl (ch_t1 _) dX3_step_149 (q := 152) rfl ?_
          exact ld hlt (fun z => hc82 (isL_iff.mp z)) (isD_iff.mpr hc141)
        · refine v_if_eq hC dX3_step_144 (t := 191) rfl (q := 147) rfl (fun _ => ?_) (fun h => absurd h (by decide))
          refine v_aload_n hC rfl dX3_step_191 (q := 192) rfl ?_
          refine v_aload_n hC rfl dX3_step_192 (q := 193) rfl ?_
          refine v_get hC fl_X3_9 (k := 35) (by decide) ch_35v rfl dX3_step_193 (q := 196) rfl ?_
          refine v_aload_n hC rfl dX3_step_196 (q := 197) rfl ?_
          refine v_get hC fl_X3_22 (k := 35) (by decide) ch_35v rfl dX3_step_197 (q := 200) rfl ?_
          refine v_iald hC (k := 36) (by decide) ch_36 (ix120' (by omega)) (j := (tkS by_ T p)) (nI_clamp (by omega)) dX3_step_200 (q := 201) rfl ?_
          refine v_bipush hC (v := 59) rfl dX3_step_201 (q := 203) rfl ?_
          refine v_icmp_ne hC dX3_step_203 (t := 210) rfl (q := 206) rfl (fun h203 => ?_) (fun h203 => ?_)
          · refine v_iconst hC (v := 4) rfl dX3_step_210 (q := 211) rfl ?_
            refine v_put hC fl_X3_19 pt_3_2 (k := 35) (by decide) ch_35v (Nat.le_of_ble_eq_true rfl) rfl rfl (ch_t1 _) dX3_step_211 (q := 214) rfl ?_
            refine v_aload_n hC rfl dX3_step_214 (q := 215) rfl ?_
            refine v_dup hC rfl dX3_step_215 (q := 216) rfl ?_
            refine v_get hC fl_X3_25 (k := 35) (by decide) ch_35v rfl dX3_step_216 (q := 219) rfl ?_
            refine v_iconst hC (v := 1) rfl dX3_step_219 (q := 220) rfl ?_
            refine v_iadd hC dX3_step_220 (q := 221) rfl ?_
            refine v_put hC fl_X3_25 pt_3_4 (k := 35) (by decide) ch_35v (Nat.le_of_ble_eq_true rfl) rfl rfl (ch_t3 _) dX3_step_221 (q := 224) rfl ?_
            refine hR _ _ _ ?_ dX3_step_224
            have e : ¬ tkS by_ T p = T := by omega
            have hL : ¬ isL by_ (tkS by_ T p) = true := fun z => hc82 (isL_iff.mp z)
            have hD : ¬ isD by_ (tkS by_ T p) = true := fun z => hc141 (isD_iff.mp z)
            refine congrArg (fun z => ch X M q nu vc sb (iv z) by_ sh nn fo kp) ?_
            simp only [tkC, tkE, if_neg e, if_neg hL, if_neg hD, if_neg h203, nI_1]
          · refine v_iconst hC (v := 3) rfl dX3_step_206 (q := 207) rfl ?_
            refine v_goto hC dX3_step_207 (t := 211) rfl ?_
            refine v_put hC fl_X3_19 pt_3_2 (k := 35) (by decide) ch_35v (Nat.le_of_ble_eq_true rfl) rfl rfl (ch_t1 _) dX3_step_211 (q := 214) rfl ?_
            refine v_aload_n hC rfl dX3_step_214 (q := 215) rfl ?_
            refine v_dup hC rfl dX3_step_215 (q := 216) rfl ?_
            refine v_get hC fl_X3_25 (k := 35) (by decide) ch_35v rfl dX3_step_216 (q := 219) rfl ?_
            refine v_iconst hC (v := 1) rfl dX3_step_219 (q := 220) rfl ?_
            refine v_iadd hC dX3_step_220 (q := 221) rfl ?_
            refine v_put hC fl_X3_25 pt_3_4 (k := 35) (by decide) ch_35v (Nat.le_of_ble_eq_true rfl) rfl rfl (ch_t3 _) dX3_step_221 (q := 224) rfl ?_
            refine hR _ _ _ ?_ dX3_step_224
            have e : ¬ tkS by_ T p = T := by omega
            have hL : ¬ isL by_ (tkS by_ T p) = true := fun z => hc82 (isL_iff.mp z)
            have hD : ¬ isD by_ (tkS by_ T p) = true := fun z => hc141 (isD_iff.mp z)
            refine congrArg (fun z => ch X M q nu vc sb (iv z) by_ sh nn fo kp) ?_
            simp only [tkC, tkE, if_neg e, if_neg hL, if_neg hD, if_pos h203, nI_1]
    · refine v_aload_n hC rfl dX3_step_65 (q := 66) rfl ?_
      refine v_iconst hC (v := 0) rfl dX3_step_66 (q := 67) rfl ?_
      refine v_put hC fl_X3_19 pt_3_2 (k := 35) (by decide) ch_35v (Nat.le_of_ble_eq_true rfl) rfl rfl (ch_t1 _) dX3_step_67 (q := 70) rfl ?_
      refine v_goto hC dX3_step_70 (t := 224) rfl ?_
      refine hR _ _ _ ?_ dX3_step_224
      have e : tkS by_ T p = T := Nat.le_antisymm hsE (Nat.not_lt.mp (fun z => h62 ((nI_ltI (by omega) (by omega)).mpr z)))
      refine congrArg (fun z => ch X M q nu vc sb (iv z) by_ sh nn fo kp) ?_
      simp [tkC, tkE, e]
  have loop : ∀ j, j ≤ T → p ≤ j → tkS by_ T p = skF (isB by_) (T - j) j → V l X (rmk 1 20) C (ch X M q nu vc sb (iv [nI T, t1, nI j, nI p]) by_ sh nn fo kp) 8 [some (.ref (ga X 35))] [] := by
    refine v_up T ?_ ?_
    · intro hj0 hI
      rw [Nat.sub_self, skF] at hI
      refine v_aload_n hC rfl dX3_step_8 (q := 9) rfl ?_
      refine v_get hC fl_X3_22 (k := 35) (by decide) ch_35v rfl dX3_step_9 (q := 12) rfl ?_
      refine v_aload_n hC rfl dX3_step_12 (q := 13) rfl ?_
      refine v_get hC fl_X3_15 (k := 35) (by decide) ch_35v rfl dX3_step_13 (q := 16) rfl ?_
      refine v_icmp_ge hC dX3_step_16 (t := 46) rfl (q := 19) rfl (fun _ => ?_) (fun h => absurd (Int32.le_refl _) h)
      rw [hI] at after
      exact after
    · intro j hj ih hj0 hI
      rw [show T - j = (T - (j + 1)) + 1 by omega, skF] at hI
      refine v_aload_n hC rfl dX3_step_8 (q := 9) rfl ?_
      refine v_get hC fl_X3_22 (k := 35) (by decide) ch_35v rfl dX3_step_9 (q := 12) rfl ?_
      refine v_aload_n hC rfl dX3_step_12 (q := 13) rfl ?_
      refine v_get hC fl_X3_15 (k := 35) (by decide) ch_35v rfl dX3_step_13 (q := 16) rfl ?_
      refine v_icmp_ge hC dX3_step_16 (t := 46) rfl (q := 19) rfl (fun h => absurd h (nI_ge hj (by omega))) (fun _ => ?_)
      refine v_aload_n hC rfl dX3_step_19 (q := 20) rfl ?_
      refine v_get hC fl_X3_9 (k := 35) (by decide) ch_35v rfl dX3_step_20 (q := 23) rfl ?_
      refine v_aload_n hC rfl dX3_step_23 (q := 24) rfl ?_
      refine v_get hC fl_X3_22 (k := 35) (by decide) ch_35v rfl dX3_step_24 (q := 27) rfl ?_
      refine v_iald hC (k := 36) (by decide) ch_36 (ix120' (by omega)) (j := j) (nI_clamp (by omega)) dX3_step_27 (q := 28) rfl ?_
      refine v_bipush hC (v := 32) rfl dX3_step_28 (q := 30) rfl ?_
      refine v_icmp_ne hC dX3_step_30 (t := 46) rfl (q := 33) rfl (fun h30 => ?_) (fun h30 => ?_)
      · have hb : ¬ isB by_ j = true := fun z => h30 (isB_iff.mp z)
        rw [if_neg hb] at hI
        rw [hI] at after
        exact after
      · refine v_aload_n hC rfl dX3_step_33 (q := 34) rfl ?_
        refine v_dup hC rfl dX3_step_34 (q := 35) rfl ?_
        refine v_get hC fl_X3_22 (k := 35) (by decide) ch_35v rfl dX3_step_35 (q := 38) rfl ?_
        refine v_iconst hC (v := 1) rfl dX3_step_38 (q := 39) rfl ?_
        refine v_iadd hC dX3_step_39 (q := 40) rfl ?_
        refine v_put hC fl_X3_22 pt_3_3 (k := 35) (by decide) ch_35v (Nat.le_of_ble_eq_true rfl) rfl rfl (ch_t2 _) dX3_step_40 (q := 43) rfl ?_
        refine v_goto hC dX3_step_43 (t := 8) rfl ?_
        have hb : isB by_ j = true := isB_iff.mpr h30
        rw [if_pos hb] at hI
        rw [nI_1]
        exact ih (by omega) hI
  refine v_aload_n hC rfl dX3_step_0 (q := 1) rfl ?_
  refine v_aload_n hC rfl dX3_step_1 (q := 2) rfl ?_
  refine v_get hC fl_X3_25 (k := 35) (by decide) ch_35v rfl dX3_step_2 (q := 5) rfl ?_
  refine v_put hC fl_X3_22 pt_3_3 (k := 35) (by decide) ch_35v (Nat.le_of_ble_eq_true rfl) rfl rfl (ch_t2 _) dX3_step_5 (q := 8) rfl ?_
  exact loop p hp1 (Nat.le_refl _) rfl

set_option maxHeartbeats 4000000 in
set_option maxRecDepth 100000 in
theorem c_X3_rewind {l : Launch} {X : Gx} {M : MS} {q nu : Nat → Nat → Int32} {vc : Nat → Nat → Nat → Int32} {sb : Nat → Nat → Int32} {by_ : Nat → Int32} {sh : Nat → Nat → Int32} {nn : Nat → Nat → Int64} {fo : Nat → Int32} {kp : Int32} {T : Nat} (hT : T ≤ 120) {t1 t2 t3 : Int32} : Cv l X yX3_rewind cX3_rewind 1 (none) (rmk 2 40) [.ref (ga X 35)] (ch X M q nu vc sb (iv [nI T, t1, t2, t3]) by_ sh nn fo kp) (fun g => g = ch X M q nu vc sb (iv [nI T, tkC by_ T (0), nI (tkS by_ T (0)), nI (tkE by_ T (0))]) by_ sh nn fo kp) := by
  refine ct_v (own := RX3) (lv := [some (.ref (ga X 35))]) (by decide) rfl (Nat.le_of_ble_eq_true rfl) (Nat.le_of_ble_eq_true rfl) rfl (fun C hC hR => ?_)
  refine v_aload_n hC rfl dX3_rewind_0 (q := 1) rfl ?_
  refine v_iconst hC (v := 0) rfl dX3_rewind_1 (q := 2) rfl ?_
  refine v_put hC fl_X3_25 pt_3_4 (k := 35) (by decide) ch_35v (Nat.le_of_ble_eq_true rfl) rfl rfl (ch_t3 _) dX3_rewind_2 (q := 5) rfl ?_
  refine v_aload_n hC rfl dX3_rewind_5 (q := 6) rfl ?_
  refine v_Vv hC lkV_X3_28 (c_X3_step (p := 0) hT (by omega)) rfl (by decide) (k := 35) (by decide) ch_35v rfl rfl (Nat.le_of_ble_eq_true rfl) dX3_rewind_6 (q := 9) rfl ?_
  rintro _ rfl
  refine hR _ _ _ ?_ dX3_rewind_9
  rfl

set_option maxHeartbeats 4000000 in
set_option maxRecDepth 100000 in
theorem c_X3_isAtEnd {l : Launch} {X : Gx} {M : MS} {q nu : Nat → Nat → Int32} {vc : Nat → Nat → Nat → Int32} {sb : Nat → Nat → Int32} {by_ : Nat → Int32} {sh : Nat → Nat → Int32} {nn : Nat → Nat → Int64} {fo : Nat → Int32} {kp : Int32} {t0 t1 t2 t3 : Int32} : Ci l X yX3_isAtEnd cX3_isAtEnd 1 (some .boolean) (rmk 0 0) [.ref (ga X 35)] (ch X M q nu vc sb (iv [t0, t1, t2, t3]) by_ sh nn fo kp) (fun z g => (t1 = 0 ∧ z = 1 ∨ ¬ t1 = 0 ∧ z = 0) ∧ g = ch X M q nu vc sb (iv [t0, t1, t2, t3]) by_ sh nn fo kp) := by
  refine ct_z (own := RX3) (lv := [some (.ref (ga X 35))]) (by decide) rfl (Nat.le_of_ble_eq_true rfl) (Nat.le_of_ble_eq_true rfl) rfl (fun C hC hR => ?_)
  refine v_aload_n hC rfl dX3_isAtEnd_0 (q := 1) rfl ?_
  refine v_get hC fl_X3_19 (k := 35) (by decide) ch_35v rfl dX3_isAtEnd_1 (q := 4) rfl ?_
  refine v_if_ne hC dX3_isAtEnd_4 (t := 11) rfl (q := 7) rfl (fun h4 => ?_) (fun h4 => ?_)
  · refine v_iconst hC (v := 0) rfl dX3_isAtEnd_11 (q := 12) rfl ?_
    refine hR _ _ _ _ ?_ (by first | rfl | decide | assumption) dX3_isAtEnd_12
    exact ⟨Or.inr ⟨h4, rfl⟩, rfl⟩
  · refine v_iconst hC (v := 1) rfl dX3_isAtEnd_7 (q := 8) rfl ?_
    refine v_goto hC dX3_isAtEnd_8 (t := 12) rfl ?_
    refine hR _ _ _ _ ?_ (by first | rfl | decide | assumption) dX3_isAtEnd_12
    exact ⟨Or.inl ⟨h4, rfl⟩, rfl⟩

set_option maxHeartbeats 4000000 in
set_option maxRecDepth 100000 in
theorem c_X3_isAtSign {l : Launch} {X : Gx} {M : MS} {q nu : Nat → Nat → Int32} {vc : Nat → Nat → Nat → Int32} {sb : Nat → Nat → Int32} {by_ : Nat → Int32} {sh : Nat → Nat → Int32} {nn : Nat → Nat → Int64} {fo : Nat → Int32} {kp : Int32} {t0 t1 t2 t3 : Int32} : Ci l X yX3_isAtSign cX3_isAtSign 1 (some .boolean) (rmk 0 0) [.ref (ga X 35)] (ch X M q nu vc sb (iv [t0, t1, t2, t3]) by_ sh nn fo kp) (fun z g => (t1 = 3 ∧ z = 1 ∨ ¬ t1 = 3 ∧ z = 0) ∧ g = ch X M q nu vc sb (iv [t0, t1, t2, t3]) by_ sh nn fo kp) := by
  refine ct_z (own := RX3) (lv := [some (.ref (ga X 35))]) (by decide) rfl (Nat.le_of_ble_eq_true rfl) (Nat.le_of_ble_eq_true rfl) rfl (fun C hC hR => ?_)
  refine v_aload_n hC rfl dX3_isAtSign_0 (q := 1) rfl ?_
  refine v_get hC fl_X3_19 (k := 35) (by decide) ch_35v rfl dX3_isAtSign_1 (q := 4) rfl ?_
  refine v_iconst hC (v := 3) rfl dX3_isAtSign_4 (q := 5) rfl ?_
  refine v_icmp_ne hC dX3_isAtSign_5 (t := 12) rfl (q := 8) rfl (fun h5 => ?_) (fun h5 => ?_)
  · refine v_iconst hC (v := 0) rfl dX3_isAtSign_12 (q := 13) rfl ?_
    refine hR _ _ _ _ ?_ (by first | rfl | decide | assumption) dX3_isAtSign_13
    exact ⟨Or.inr ⟨h5, rfl⟩, rfl⟩
  · refine v_iconst hC (v := 1) rfl dX3_isAtSign_8 (q := 9) rfl ?_
    refine v_goto hC dX3_isAtSign_9 (t := 13) rfl ?_
    refine hR _ _ _ _ ?_ (by first | rfl | decide | assumption) dX3_isAtSign_13
    exact ⟨Or.inl ⟨h5, rfl⟩, rfl⟩

def vlC (t : Nat → Int32) (s : Nat) : Nat → Int32
  | 0 => 0
  | k + 1 => if vlC t s k * 10 + t (s + k) - 48 < 1000 then vlC t s k * 10 + t (s + k) - 48 else 1000
theorem vl_step : ∀ v : Fin 1000, ∀ d : Fin 10, 10 * nI v.val + (48 + nI d.val) - 48 = nI (10 * v.val + d.val) ∧ nI v.val * 10 + (48 + nI d.val) - 48 = nI (10 * v.val + d.val) := by
  intro v d
  rw [show (10 : Int32) = nI 10 from rfl, show (48 : Int32) = nI 48 from rfl, pk_mul, pk_mul, nI_add, nI_add, nI_add, pk_sub (by omega), pk_sub (by omega)]
  exact ⟨by congr 1; omega, by congr 1; omega⟩
theorem vl_val {t : Nat → Int32} {s : Nat} : ∀ k, (∀ j, j < k → isD t (s + j) = true) → ∃ v, v < 10000 ∧ valF t s k = nI v ∧ vlC t s k = nI (if v < 1000 then v else 1000)
  | 0, _ => ⟨0, by decide, rfl, rfl⟩
  | k + 1, h => by
    obtain ⟨v, hv, e1, e2⟩ := vl_val (t := t) (s := s) k (fun j hj => h j (by omega))
    have hd := isD_iff.mp (h k (by omega))
    obtain ⟨D, hD1, hD2, hD⟩ := w_of' (a := 48) (N := 57) (by decide) (by decide) hd.1 hd.2
    have eD : t (s + k) = 48 + nI (D - 48) := by rw [hD, show (48 : Int32) = nI 48 from rfl, nI_add, show 48 + (D - 48) = D by omega]
    rw [valF, vlC, e1, e2]
    by_cases h9 : v < 1000
    · have hn : ¬ 999 < nI v := Int32.not_lt.mpr (nI_le (b := 999) (by omega) (by decide))
      have hst := vl_step ⟨v, h9⟩ ⟨D - 48, by omega⟩
      dsimp only at hst
      rw [if_neg hn, if_pos h9, eD, hst.1, hst.2]
      refine ⟨10 * v + (D - 48), by omega, rfl, ?_⟩
      rw [show (1000 : Int32) = nI 1000 from rfl]
      by_cases hz : 10 * v + (D - 48) < 1000
      · rw [if_pos ((nI_ltI (b := 1000) (by omega) (by decide)).mpr hz), if_pos hz]
      · rw [if_neg (fun z => hz ((nI_ltI (b := 1000) (by omega) (by decide)).mp z)), if_neg hz]
    · have hn : 999 < nI v := (nI_ltI (a := 999) (by decide) (by omega)).mpr (by omega)
      rw [if_pos hn, if_neg h9, eD]
      refine ⟨v, hv, rfl, ?_⟩
      rw [if_neg h9]
      have e3 : nI 1000 * 10 + (48 + nI (D - 48)) - 48 = nI (10000 + (D - 48)) := by
        rw [show (10 : Int32) = nI 10 from rfl, show (48 : Int32) = nI 48 from rfl, pk_mul, nI_add, nI_add, pk_sub (by omega)]
        congr 1
        omega
      rw [e3, if_neg (fun z => by have := (nI_ltI (b := 1000) (by omega) (by decide)).mp z; omega)]
      rfl