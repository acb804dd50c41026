theorem ix40 {j : Nat} (h : j < 40) : vp_in (nI j) 40 := vp_in_nI h (by decide)
theorem mixL_s {n : Nat} {a b : Nat → Int64} : vp_updL (mixN n a b) n (a n) = mixN (n + 1) a b := mix_s
set_option maxHeartbeats 4000000 in
set_option maxRecDepth 100000 in
theorem c_X2_begin {l : Launch} {X : Gx} {M : MS} {q nu : Nat → Nat → Int32} {vc : Nat → Nat → Nat → Int32} {sb : Nat → Nat → Int32} {tp by_ : Nat → Int32} {sh : Nat → Nat → Int32} {nn : Nat → Nat → Int64} {fo : Nat → Int32} {kp : Int32} {s : Nat} (hs : s < 4) {bt n : Int32} : Cv l X yX2_begin cX2_begin 4 (none) (rmk 0 0) [.ref (ga X (38 + 2 * s)), .int bt, .int n] (ch X M q nu vc sb tp by_ sh nn fo kp) (fun g => g = ch X M q nu vc sb tp by_ (va_up sh s (upd (upd (sh s) 0 bt) 1 (if bt = 0 then 0 else n))) (va_up nn s (mixN 40 (fun _ => 0) (nn s))) fo kp) := by
  refine ct_v (own := RX2) (lv := [some (.ref (ga X (38 + 2 * s))), some (.int bt), some (.int n), none]) (by decide) rfl (Nat.le_of_ble_eq_true rfl) (Nat.le_of_ble_eq_true rfl) rfl (fun C hC hR => ?_)
  have loop : ∀ j, j ≤ 40 → V l X (rmk 0 0) C (ch X M q nu vc sb tp by_ (va_up sh s (upd (upd (sh s) 0 bt) 1 (if bt = 0 then 0 else n))) (va_up nn s (mixN j (fun _ => 0) (nn s))) fo kp) 20 [some (.ref (ga X (38 + 2 * s))), some (.int bt), some (.int n), some (.int (nI j))] [] := by
    refine v_up 40 ?_ ?_
    · refine v_iload_n hC rfl dX2_begin_20 (q := 21) rfl ?_
      refine v_bipush hC (v := 40) rfl dX2_begin_21 (q := 23) rfl ?_
      refine v_icmp_ge hC dX2_begin_23 (t := 39) rfl (q := 26) rfl (fun _ => ?_) (fun h => absurd (by decide) h)
      refine hR _ _ _ ?_ dX2_begin_39
      rfl
    · intro j hj ih
      refine v_iload_n hC rfl dX2_begin_20 (q := 21) rfl ?_
      refine v_bipush hC (v := 40) rfl dX2_begin_21 (q := 23) rfl ?_
      refine v_icmp_ge hC dX2_begin_23 (t := 39) rfl (q := 26) rfl (fun h => absurd h (nI_ge (b := 40) hj (by decide))) (fun _ => ?_)
      refine v_aload_n hC rfl dX2_begin_26 (q := 27) rfl ?_
      refine v_get hC fl_X2_18 (k := 38 + 2 * s) (by omega) (ch_sh hs) rfl dX2_begin_27 (q := 30) rfl ?_
      refine v_iload_n hC rfl dX2_begin_30 (q := 31) rfl ?_
      refine v_lconst hC (v := 0) rfl dX2_begin_31 (q := 32) rfl ?_
      refine v_last hC (k := 39 + 2 * s) (by omega) (ch_nn hs) (ix40 hj) (j := j) (nI_clamp (by omega)) (ch_nu hs _) dX2_begin_32 (q := 33) rfl ?_
      refine v_iinc_3 hC (v := _ + 1) rfl rfl dX2_begin_33 (q := 36) rfl ?_
      refine v_goto hC dX2_begin_36 (t := 20) rfl ?_
      refine v_same ?_ ?_ rfl ih
      · rw [va_up_self, bx_uu, ← mixL_s]
      · simp [nI_1]
  refine v_aload_n hC rfl dX2_begin_0 (q := 1) rfl ?_
  refine v_iload_n hC rfl dX2_begin_1 (q := 2) rfl ?_
  refine v_put hC fl_X2_9 pt_2_0 (k := 38 + 2 * s) (by omega) (ch_sh hs) (Nat.le_of_ble_eq_true rfl) rfl rfl (ch_sh0 hs _) dX2_begin_2 (q := 5) rfl ?_
  refine v_aload_n hC rfl dX2_begin_5 (q := 6) rfl ?_
  refine v_iload_n hC rfl dX2_begin_6 (q := 7) rfl ?_
  refine v_if_ne hC dX2_begin_7 (t := 14) rfl (q := 10) rfl (fun h7 => ?_) (fun h7 => ?_)
  · refine v_iload_n hC rfl dX2_begin_14 (q := 15) rfl ?_
    refine v_put hC fl_X2_15 pt_2_1 (k := 38 + 2 * s) (by omega) (ch_sh hs) (Nat.le_of_ble_eq_true rfl) rfl rfl (ch_sh1 hs _) dX2_begin_15 (q := 18) rfl ?_
    refine v_iconst hC (v := 0) rfl dX2_begin_18 (q := 19) rfl ?_
    refine v_istore_3 hC rfl dX2_begin_19 (q := 20) rfl ?_
    refine v_same ?_ rfl rfl (loop 0 (Nat.zero_le _))
    rw [mix_0, up_id, va_up_self, bx_uu, if_neg h7]
  · refine v_iconst hC (v := 0) rfl dX2_begin_10 (q := 11) rfl ?_
    refine v_goto hC dX2_begin_11 (t := 15) rfl ?_
    refine v_put hC fl_X2_15 pt_2_1 (k := 38 + 2 * s) (by omega) (ch_sh hs) (Nat.le_of_ble_eq_true rfl) rfl rfl (ch_sh1 hs _) dX2_begin_15 (q := 18) rfl ?_
    refine v_iconst hC (v := 0) rfl dX2_begin_18 (q := 19) rfl ?_
    refine v_istore_3 hC rfl dX2_begin_19 (q := 20) rfl ?_
    refine v_same ?_ rfl rfl (loop 0 (Nat.zero_le _))
    rw [mix_0, up_id, va_up_self, bx_uu, if_pos h7]

set_option maxHeartbeats 4000000 in
set_option maxRecDepth 100000 in
theorem c_X2_isMissing {l : Launch} {X : Gx} {M : MS} {q nu : Nat → Nat → Int32} {vc : Nat → Nat → Nat → Int32} {sb : Nat → Nat → Int32} {tp by_ : Nat → Int32} {sh : Nat → Nat → Int32} {nn : Nat → Nat → Int64} {fo : Nat → Int32} {kp : Int32} {s : Nat} (hs : s < 4) : Ci l X yX2_isMissing cX2_isMissing 1 (some .boolean) (rmk 0 0) [.ref (ga X (38 + 2 * s))] (ch X M q nu vc sb tp by_ sh nn fo kp) (fun z g => (sh s 0 = 0 ∧ z = 1 ∨ ¬ sh s 0 = 0 ∧ z = 0) ∧ g = ch X M q nu vc sb tp by_ sh nn fo kp) := by
  refine ct_z (own := RX2) (lv := [some (.ref (ga X (38 + 2 * s)))]) (by decide) rfl (Nat.le_of_ble_eq_true rfl) (Nat.le_of_ble_eq_true rfl) rfl (fun C hC hR => ?_)
  refine v_aload_n hC rfl dX2_isMissing_0 (q := 1) rfl ?_
  refine v_get hC fl_X2_9 (k := 38 + 2 * s) (by omega) (ch_sh hs) rfl dX2_isMissing_1 (q := 4) rfl ?_
  refine v_if_ne hC dX2_isMissing_4 (t := 11) rfl (q := 7) rfl (fun h4 => ?_) (fun h4 => ?_)
  · refine v_iconst hC (v := 0) rfl dX2_isMissing_11 (q := 12) rfl ?_
    refine hR _ _ _ _ ?_ (by first | rfl | decide | assumption) dX2_isMissing_12
    exact ⟨Or.inr ⟨h4, rfl⟩, rfl⟩
  · refine v_iconst hC (v := 1) rfl dX2_isMissing_7 (q := 8) rfl ?_
    refine v_goto hC dX2_isMissing_8 (t := 12) rfl ?_
    refine hR _ _ _ _ ?_ (by first | rfl | decide | assumption) dX2_isMissing_12
    exact ⟨Or.inl ⟨h4, rfl⟩, rfl⟩

set_option maxHeartbeats 4000000 in
set_option maxRecDepth 100000 in
theorem c_X2_has {l : Launch} {X : Gx} {M : MS} {q nu : Nat → Nat → Int32} {vc : Nat → Nat → Nat → Int32} {sb : Nat → Nat → Int32} {tp by_ : Nat → Int32} {sh : Nat → Nat → Int32} {nn : Nat → Nat → Int64} {fo : Nat → Int32} {kp : Int32} {s : Nat} (hs : s < 4) {fr n : Int32} : Ci l X yX2_has cX2_has 3 (some .boolean) (rmk 0 0) [.ref (ga X (38 + 2 * s)), .int fr, .int n] (ch X M q nu vc sb tp by_ sh nn fo kp) (fun z g => ((0 ≤ fr ∧ 0 ≤ n ∧ n ≤ sh s 1 ∧ fr ≤ sh s 1 - n) ∧ z = 1 ∨ ¬ (0 ≤ fr ∧ 0 ≤ n ∧ n ≤ sh s 1 ∧ fr ≤ sh s 1 - n) ∧ z = 0) ∧ g = ch X M q nu vc sb tp by_ sh nn fo kp) := by
  refine ct_z (own := RX2) (lv := [some (.ref (ga X (38 + 2 * s))), some (.int fr), some (.int n)]) (by decide) rfl (Nat.le_of_ble_eq_true rfl) (Nat.le_of_ble_eq_true rfl) rfl (fun C hC hR => ?_)
  refine v_iload_n hC rfl dX2_has_0 (q := 1) rfl ?_
  refine v_if_lt hC dX2_has_1 (t := 30) rfl (q := 4) rfl (fun h1 => ?_) (fun h1 => ?_)
  · refine v_iconst hC (v := 0) rfl dX2_has_30 (q := 31) rfl ?_
    refine hR _ _ _ _ ?_ (by first | rfl | decide | assumption) dX2_has_31
    exact ⟨Or.inr ⟨fun z => Int32.not_le.mpr h1 z.1, rfl⟩, rfl⟩
  · refine v_iload_n hC rfl dX2_has_4 (q := 5) rfl ?_
    refine v_if_lt hC dX2_has_5 (t := 30) rfl (q := 8) rfl (fun h5 => ?_) (fun h5 => ?_)
    · refine v_iconst hC (v := 0) rfl dX2_has_30 (q := 31) rfl ?_
      refine hR _ _ _ _ ?_ (by first | rfl | decide | assumption) dX2_has_31
      exact ⟨Or.inr ⟨fun z => Int32.not_le.mpr h5 z.2.1, rfl⟩, rfl⟩
    · refine v_iload_n hC rfl dX2_has_8 (q := 9) rfl ?_
      refine v_aload_n hC rfl dX2_has_9 (q := 10) rfl ?_
      refine v_get hC fl_X2_15 (k := 38 + 2 * s) (by omega) (ch_sh hs) rfl dX2_has_10 (q := 13) rfl ?_
      refine v_icmp_gt hC dX2_has_13 (t := 30) rfl (q := 16) rfl (fun h13 => ?_) (fun h13 => ?_)
      · refine v_iconst hC (v := 0) rfl dX2_has_30 (q := 31) rfl ?_
        refine hR _ _ _ _ ?_ (by first | rfl | decide | assumption) dX2_has_31
        exact ⟨Or.inr ⟨fun z => Int32.not_le.mpr h13 z.2.2.1, rfl⟩, rfl⟩
      · refine v_iload_n hC rfl dX2_has_16 (q := 17) rfl ?_
        refine v_aload_n hC rfl dX2_has_17 (q := 18) rfl ?_
        refine v_get hC fl_X2_15 (k := 38 + 2 * s) (by omega) (ch_sh hs) rfl dX2_has_18 (q := 21) rfl ?_
        refine v_iload_n hC rfl dX2_has_21 (q := 22) rfl ?_
        refine v_isub hC dX2_has_22 (q := 23) rfl ?_
        refine v_icmp_gt hC dX2_has_23 (t := 30) rfl (q := 26) rfl (fun h23 => ?_) (fun h23 => ?_)
        · refine v_iconst hC (v := 0) rfl dX2_has_30 (q := 31) rfl ?_
          refine hR _ _ _ _ ?_ (by first | rfl | decide | assumption) dX2_has_31
          exact ⟨Or.inr ⟨fun z => Int32.not_le.mpr h23 z.2.2.2, rfl⟩, rfl⟩
        · refine v_iconst hC (v := 1) rfl dX2_has_26 (q := 27) rfl ?_
          refine v_goto hC dX2_has_27 (t := 31) rfl ?_
          refine hR _ _ _ _ ?_ (by first | rfl | decide | assumption) dX2_has_31
          exact ⟨Or.inl ⟨⟨Int32.not_lt.mp h1, Int32.not_lt.mp h5, Int32.not_lt.mp h13, Int32.not_lt.mp h23⟩, rfl⟩, rfl⟩

set_option maxHeartbeats 4000000 in
set_option maxRecDepth 100000 in
theorem c_X2_put {l : Launch} {X : Gx} {M : MS} {q nu : Nat → Nat → Int32} {vc : Nat → Nat → Nat → Int32} {sb : Nat → Nat → Int32} {tp by_ : Nat → Int32} {sh : Nat → Nat → Int32} {nn : Nat → Nat → Int64} {fo : Nat → Int32} {kp : Int32} {s : Nat} (hs : s < 4) {j : Nat} (hj : j < 40) {v : Int64} : Cv l X yX2_put cX2_put 4 (none) (rmk 0 0) [.ref (ga X (38 + 2 * s)), .int (nI j), .long v] (ch X M q nu vc sb tp by_ sh nn fo kp) (fun g => g = ch X M q nu vc sb tp by_ sh (va_up nn s (vp_updL (nn s) j (cutF (sh s 0) v))) fo kp) := by
  refine ct_v (own := RX2) (lv := [some (.ref (ga X (38 + 2 * s))), some (.int (nI j)), some (.long v), none]) (by decide) rfl (Nat.le_of_ble_eq_true rfl) (Nat.le_of_ble_eq_true rfl) rfl (fun C hC hR => ?_)
  refine v_aload_n hC rfl dX2_put_0 (q := 1) rfl ?_
  refine v_get hC fl_X2_9 (k := 38 + 2 * s) (by omega) (ch_sh hs) rfl dX2_put_1 (q := 4) rfl ?_
  refine v_bipush hC (v := 8) rfl dX2_put_4 (q := 6) rfl ?_
  refine v_icmp_ne hC dX2_put_6 (t := 22) rfl (q := 9) rfl (fun h6 => ?_) (fun h6 => ?_)
  · refine v_aload_n hC rfl dX2_put_22 (q := 23) rfl ?_
    refine v_get hC fl_X2_9 (k := 38 + 2 * s) (by omega) (ch_sh hs) rfl dX2_put_23 (q := 26) rfl ?_
    refine v_bipush hC (v := 16) rfl dX2_put_26 (q := 28) rfl ?_
    refine v_icmp_ne hC dX2_put_28 (t := 44) rfl (q := 31) rfl (fun h28 => ?_) (fun h28 => ?_)
    · refine v_aload_n hC rfl dX2_put_44 (q := 45) rfl ?_
      refine v_get hC fl_X2_18 (k := 38 + 2 * s) (by omega) (ch_sh hs) rfl dX2_put_45 (q := 48) rfl ?_
      refine v_iload_n hC rfl dX2_put_48 (q := 49) rfl ?_
      refine v_lload_n hC rfl dX2_put_49 (q := 50) rfl ?_
      refine v_last hC (k := 39 + 2 * s) (by omega) (ch_nn hs) (ix40 hj) (j := j) (nI_clamp (by omega)) (ch_nu hs _) dX2_put_50 (q := 51) rfl ?_
      refine hR _ _ _ ?_ dX2_put_51
      rw [cutF, if_neg h6, if_neg h28]
    · refine v_aload_n hC rfl dX2_put_31 (q := 32) rfl ?_
      refine v_get hC fl_X2_18 (k := 38 + 2 * s) (by omega) (ch_sh hs) rfl dX2_put_32 (q := 35) rfl ?_
      refine v_iload_n hC rfl dX2_put_35 (q := 36) rfl ?_
      refine v_lload_n hC rfl dX2_put_36 (q := 37) rfl ?_
      refine v_l2i hC dX2_put_37 (q := 38) rfl ?_
      refine v_i2s hC dX2_put_38 (q := 39) rfl ?_
      refine v_i2l hC dX2_put_39 (q := 40) rfl ?_
      refine v_last hC (k := 39 + 2 * s) (by omega) (ch_nn hs) (ix40 hj) (j := j) (nI_clamp (by omega)) (ch_nu hs _) dX2_put_40 (q := 41) rfl ?_
      refine v_goto hC dX2_put_41 (t := 51) rfl ?_
      refine hR _ _ _ ?_ dX2_put_51
      rw [cutF, if_neg h6, if_pos h28]
  · refine v_aload_n hC rfl dX2_put_9 (q := 10) rfl ?_
    refine v_get hC fl_X2_18 (k := 38 + 2 * s) (by omega) (ch_sh hs) rfl dX2_put_10 (q := 13) rfl ?_
    refine v_iload_n hC rfl dX2_put_13 (q := 14) rfl ?_
    refine v_lload_n hC rfl dX2_put_14 (q := 15) rfl ?_
    refine v_l2i hC dX2_put_15 (q := 16) rfl ?_
    refine v_i2b hC dX2_put_16 (q := 17) rfl ?_
    refine v_i2l hC dX2_put_17 (q := 18) rfl ?_
    refine v_last hC (k := 39 + 2 * s) (by omega) (ch_nn hs) (ix40 hj) (j := j) (nI_clamp (by omega)) (ch_nu hs _) dX2_put_18 (q := 19) rfl ?_
    refine v_goto hC dX2_put_19 (t := 51) rfl ?_
    refine hR _ _ _ ?_ dX2_put_51
    rw [cutF, if_pos h6]

set_option maxHeartbeats 4000000 in
set_option maxRecDepth 100000 in
theorem c_X5_isUpTo {l : Launch} {X : Gx} {f : Hp} {v mo : Int32} : Ci l X yX5_isUpTo cX5_isUpTo 2 (some .boolean) (rmk 0 0) [.int v, .int mo] (f) (fun z g => ((0 ≤ v ∧ v ≤ mo) ∧ z = 1 ∨ ¬ (0 ≤ v ∧ v ≤ mo) ∧ z = 0) ∧ g = f) := by
  refine ct_z (own := RX5) (lv := [some (.int v), some (.int mo)]) (by decide) rfl (Nat.le_of_ble_eq_true rfl) (Nat.le_of_ble_eq_true rfl) rfl (fun C hC hR => ?_)
  refine v_iload_n hC rfl dX5_isUpTo_0 (q := 1) rfl ?_
  refine v_if_lt hC dX5_isUpTo_1 (t := 13) rfl (q := 4) rfl (fun h1 => ?_) (fun h1 => ?_)
  · refine v_iconst hC (v := 0) rfl dX5_isUpTo_13 (q := 14) rfl ?_
    refine hR _ _ _ _ ?_ (by first | rfl | decide | assumption) dX5_isUpTo_14
    exact ⟨Or.inr ⟨fun z => Int32.not_le.mpr h1 z.1, rfl⟩, rfl⟩
  · refine v_iload_n hC rfl dX5_isUpTo_4 (q := 5) rfl ?_
    refine v_iload_n hC rfl dX5_isUpTo_5 (q := 6) rfl ?_
    refine v_icmp_gt hC dX5_isUpTo_6 (t := 13) rfl (q := 9) rfl (fun h6 => ?_) (fun h6 => ?_)
    · refine v_iconst hC (v := 0) rfl dX5_isUpTo_13 (q := 14) rfl ?_
      refine hR _ _ _ _ ?_ (by first | rfl | decide | assumption) dX5_isUpTo_14
      exact ⟨Or.inr ⟨fun z => Int32.not_le.mpr h6 z.2, rfl⟩, rfl⟩
    · refine v_iconst hC (v := 1) rfl dX5_isUpTo_9 (q := 10) rfl ?_
      refine v_goto hC dX5_isUpTo_10 (t := 14) rfl ?_
      refine hR _ _ _ _ ?_ (by first | rfl | decide | assumption) dX5_isUpTo_14
      exact ⟨Or.inl ⟨⟨Int32.not_lt.mp h1, Int32.not_lt.mp h6⟩, rfl⟩, rfl⟩

theorem lt_le {x : Int32} {N : Nat} (h0 : 0 < N) (hN : N < 1000) : (¬ x < 0 ∧ ¬ nI N ≤ x) ↔ ∃ P, P < N ∧ x = nI P := by
  constructor
  · rintro ⟨h1, h2⟩
    obtain ⟨W, hW, e⟩ := w_of hN (Int32.not_lt.mp h1) (Int32.not_le.mp h2)
    exact ⟨W, hW, e⟩
  · rintro ⟨P, hP, rfl⟩
    exact ⟨nI_pos (by omega), nI_ge hP (by omega)⟩
set_option maxHeartbeats 4000000 in
set_option maxRecDepth 100000 in
theorem c_X5_isSheet {l : Launch} {X : Gx} {f : Hp} {s : Int32} : Ci l X yX5_isSheet cX5_isSheet 1 (some .boolean) (rmk 0 0) [.int s] (f) (fun z g => ((∃ Q, Q < 4 ∧ s = nI Q) ∧ z = 1 ∨ ¬ (∃ Q, Q < 4 ∧ s = nI Q) ∧ z = 0) ∧ g = f) := by
  refine ct_z (own := RX5) (lv := [some (.int s)]) (by decide) rfl (Nat.le_of_ble_eq_true rfl) (Nat.le_of_ble_eq_true rfl) rfl (fun C hC hR => ?_)
  refine v_iload_n hC rfl dX5_isSheet_0 (q := 1) rfl ?_
  refine v_if_lt hC dX5_isSheet_1 (t := 13) rfl (q := 4) rfl (fun h1 => ?_) (fun h1 => ?_)
  · refine v_iconst hC (v := 0) rfl dX5_isSheet_13 (q := 14) rfl ?_
    refine hR _ _ _ _ ?_ (by first | rfl | decide | assumption) dX5_isSheet_14
    exact ⟨Or.inr ⟨fun z => ((lt_le (N := 4) (by decide) (by decide)).mpr z).1 h1, rfl⟩, rfl⟩
  · refine v_iload_n hC rfl dX5_isSheet_4 (q := 5) rfl ?_
    refine v_iconst hC (v := 4) rfl dX5_isSheet_5 (q := 6) rfl ?_
    refine v_icmp_ge hC dX5_isSheet_6 (t := 13) rfl (q := 9) rfl (fun h6 => ?_) (fun h6 => ?_)
    · refine v_iconst hC (v := 0) rfl dX5_isSheet_13 (q := 14) rfl ?_
      refine hR _ _ _ _ ?_ (by first | rfl | decide | assumption) dX5_isSheet_14
      exact ⟨Or.inr ⟨fun z => ((lt_le (N := 4) (by decide) (by decide)).mpr z).2 h6, rfl⟩, rfl⟩
    · refine v_iconst hC (v := 1) rfl dX5_isSheet_9 (q := 10) rfl ?_
      refine v_goto hC dX5_isSheet_10 (t := 14) rfl ?_
      refine hR _ _ _ _ ?_ (by first | rfl | decide | assumption) dX5_isSheet_14
      exact ⟨Or.inl ⟨(lt_le (N := 4) (by decide) (by decide)).mp ⟨h1, h6⟩, rfl⟩, rfl⟩

theorem kd_iff {x : Int32} : (¬ x < 0 ∧ ¬ 6 ≤ x) ↔ (0 ≤ x ∧ x ≤ 5) := by
  constructor
  · rintro ⟨h1, h2⟩
    exact ⟨Int32.not_lt.mp h1, by have := Int32.not_le.mp h2; rw [fa_lt] at this; rw [fa_le]; have h6 : x.toInt < 6 := this; show x.toInt ≤ 5; omega⟩
  · rintro ⟨h1, h2⟩
    refine ⟨Int32.not_lt.mpr h1, Int32.not_le.mpr ?_⟩
    rw [fa_le] at h2
    rw [fa_lt]
    have h5 : x.toInt ≤ 5 := h2
    show x.toInt < 6
    omega
set_option maxHeartbeats 4000000 in
set_option maxRecDepth 100000 in
theorem c_X5_isKind {l : Launch} {X : Gx} {f : Hp} {x : Int32} : Ci l X yX5_isKind cX5_isKind 1 (some .boolean) (rmk 0 0) [.int x] (f) (fun z g => ((0 ≤ x ∧ x ≤ 5) ∧ z = 1 ∨ ¬ (0 ≤ x ∧ x ≤ 5) ∧ z = 0) ∧ g = f) := by
  refine ct_z (own := RX5) (lv := [some (.int x)]) (by decide) rfl (Nat.le_of_ble_eq_true rfl) (Nat.le_of_ble_eq_true rfl) rfl (fun C hC hR => ?_)
  refine v_iload_n hC rfl dX5_isKind_0 (q := 1) rfl ?_
  refine v_if_lt hC dX5_isKind_1 (t := 14) rfl (q := 4) rfl (fun h1 => ?_) (fun h1 => ?_)
  · refine v_iconst hC (v := 0) rfl dX5_isKind_14 (q := 15) rfl ?_
    refine hR _ _ _ _ ?_ (by first | rfl | decide | assumption) dX5_isKind_15
    exact ⟨Or.inr ⟨fun z => (kd_iff.mpr z).1 h1, rfl⟩, rfl⟩
  · refine v_iload_n hC rfl dX5_isKind_4 (q := 5) rfl ?_
    refine v_bipush hC (v := 6) rfl dX5_isKind_5 (q := 7) rfl ?_
    refine v_icmp_ge hC dX5_isKind_7 (t := 14) rfl (q := 10) rfl (fun h7 => ?_) (fun h7 => ?_)
    · refine v_iconst hC (v := 0) rfl dX5_isKind_14 (q := 15) rfl ?_
      refine hR _ _ _ _ ?_ (by first | rfl | decide | assumption) dX5_isKind_15
      exact ⟨Or.inr ⟨fun z => (kd_iff.mpr z).2 h7, rfl⟩, rfl⟩
    · refine v_iconst hC (v := 1) rfl dX5_isKind_10 (q := 11) rfl ?_
      refine v_goto hC dX5_isKind_11 (t := 15) rfl ?_
      refine hR _ _ _ _ ?_ (by first | rfl | decide | assumption) dX5_isKind_15
      exact ⟨Or.inl ⟨kd_iff.mp ⟨h1, h7⟩, rfl⟩, rfl⟩
