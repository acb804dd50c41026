set_option maxHeartbeats 4000000 in
set_option maxRecDepth 100000 in
theorem c_X5_goesAsTold {l : Launch} {X : Gx} {f : Hp} {q : Nat} (hq : q < 56) {k : Int32} {v : Nat → Int32} (hv : okV v) {s : Nat} (hs : s < 4) {bb sz : Int32} {nu_ : Nat → Int64} (g1 : f (38 + 2 * s) = .inr (2, [.int bb, .int sz, .ref (ga X (39 + 2 * s))])) (g2 : f (39 + 2 * s) = .inl (gc X 1, 40, .inr (.inl nu_))) (hn1 : 38 + 2 * s ≠ q) (hn2 : 39 + 2 * s ≠ q) {z : Nat} (hz : sz = nI z) (h40 : z ≤ 40) : Ci l X yX5_goesAsTold cX5_goesAsTold 3 (some .boolean) (rmk 4 87) [.ref (ga X q), .ref (ga X (38 + 2 * s))] (va_up f q (oneV k v)) (fun y g => ((∀ x, x < z → nu_ x = (itD k v x 1).toInt64) ∧ y = 1 ∨ ¬ (∀ x, x < z → nu_ x = (itD k v x 1).toInt64) ∧ y = 0) ∧ ∃ w, g = va_up f q (oneV k w)) := by
  refine ct_z (own := RX5) (lv := [some (.ref (ga X q)), some (.ref (ga X (38 + 2 * s))), none]) (by decide) rfl (Nat.le_of_ble_eq_true rfl) (Nat.le_of_ble_eq_true rfl) rfl (fun C hC hR => ?_)
  have loop : ∀ j, j ≤ z → (∀ x, x < j → nu_ x = (itD k v x 1).toInt64) → V l X (rmk 4 87) C (va_up f q (oneV k (itD k v j))) 2 [some (.ref (ga X q)), some (.ref (ga X (38 + 2 * s))), some (.int (nI j))] [] := by
    refine v_up z ?_ ?_
    · intro hI
      refine v_iload_n hC rfl dX5_goesAsTold_2 (q := 3) rfl ?_
      refine v_aload_n hC rfl dX5_goesAsTold_3 (q := 4) rfl ?_
      refine v_getN hC nl_X5_213 (k := 38 + 2 * s) (by omega) ((va_up_ne _ _ hn1).trans g1) rfl dX5_goesAsTold_4 (q := 7) rfl ?_
      refine v_icmp_ge hC dX5_goesAsTold_7 (t := 37) rfl (q := 10) rfl (fun _ => ?_) (fun h => absurd (by rw [hz]; exact Int32.le_refl _) h)
      refine v_iconst hC (v := 1) rfl dX5_goesAsTold_37 (q := 38) rfl ?_
      refine hR _ _ _ _ ?_ (by first | rfl | decide | assumption) dX5_goesAsTold_38
      exact ⟨Or.inl ⟨hI, rfl⟩, _, rfl⟩
    · intro j hj ih hI
      refine v_iload_n hC rfl dX5_goesAsTold_2 (q := 3) rfl ?_
      refine v_aload_n hC rfl dX5_goesAsTold_3 (q := 4) rfl ?_
      refine v_getN hC nl_X5_213 (k := 38 + 2 * s) (by omega) ((va_up_ne _ _ hn1).trans g1) rfl dX5_goesAsTold_4 (q := 7) rfl ?_
      refine v_icmp_ge hC dX5_goesAsTold_7 (t := 37) rfl (q := 10) rfl (fun h => absurd h (by rw [hz]; exact nI_ge hj (by omega))) (fun _ => ?_)
      refine v_aload_n hC rfl dX5_goesAsTold_10 (q := 11) rfl ?_
      refine v_getN hC nl_X5_219 (k := 38 + 2 * s) (by omega) ((va_up_ne _ _ hn1).trans g1) rfl dX5_goesAsTold_11 (q := 14) rfl ?_
      refine v_iload_n hC rfl dX5_goesAsTold_14 (q := 15) rfl ?_
      refine v_lald hC (k := 39 + 2 * s) (by omega) ((va_up_ne _ _ hn2).trans g2) (ix40 (by omega)) (j := j) (nI_clamp (by omega)) dX5_goesAsTold_15 (q := 16) rfl ?_
      refine v_aload_n hC rfl dX5_goesAsTold_16 (q := 17) rfl ?_
      refine v_getN hC nl_X5_98 (k := q) hq (va_up_self _ _ _) rfl dX5_goesAsTold_17 (q := 20) rfl ?_
      refine v_i2l hC dX5_goesAsTold_20 (q := 21) rfl ?_
      refine v_lcmp hC dX5_goesAsTold_21 (q := 22) rfl ?_
      refine v_if_eq hC dX5_goesAsTold_22 (t := 27) rfl (q := 25) rfl (fun h22 => ?_) (fun h22 => ?_)
      · refine v_aload_n hC rfl dX5_goesAsTold_27 (q := 28) rfl ?_
        refine v_Vv hC lkV_X5_247 (c_X0_letDayGo hq (okV_it hv j)) rfl (by decide) (k := q) hq (va_up_self _ _ _) rfl rfl (Nat.le_of_ble_eq_true rfl) dX5_goesAsTold_28 (q := 31) rfl ?_
        rintro _ rfl
        refine v_iinc_2 hC (v := _ + 1) rfl rfl dX5_goesAsTold_31 (q := 34) rfl ?_
        refine v_goto hC dX5_goesAsTold_34 (t := 2) rfl ?_
        refine v_same rfl ?_ rfl (ih (lt_s hI ((lg_cmp_eq _ _).mp h22)))
        simp [nI_1]
      · refine v_iconst hC (v := 0) rfl dX5_goesAsTold_25 (q := 26) rfl ?_
        refine hR _ _ _ _ ?_ (by first | rfl | decide | assumption) dX5_goesAsTold_26
        exact ⟨Or.inr ⟨fun z1 => h22 ((lg_cmp_eq _ _).mpr (z1 j hj)), rfl⟩, _, rfl⟩
  refine v_iconst hC (v := 0) rfl dX5_goesAsTold_0 (q := 1) rfl ?_
  refine v_istore_2 hC rfl dX5_goesAsTold_1 (q := 2) rfl ?_
  exact loop 0 (Nat.zero_le _) (fun x hx => absurd hx (Nat.not_lt_zero _))

theorem dyV_1 {vv : Nat → Nat → Int32} {n j : Nat} : dyV (dyV vv n j 0) n 1 0 = dyV vv n (j + 1) 0 := by
  funext q
  simp only [dyV]
  by_cases h : q < n
  · simp only [if_pos h, if_neg (Nat.not_lt_zero q)]
    rfl
  · rw [if_neg h, if_neg h, if_neg h]
theorem dyV_it {vv : Nat → Nat → Int32} {n j q : Nat} (h : q < n) : dyV vv n j 0 q = itD (nI q) (vv q) j := by
  simp only [dyV]
  rw [if_pos h, if_neg (Nat.not_lt_zero _)]
set_option maxHeartbeats 4000000 in
set_option maxRecDepth 100000 in
theorem c_X5_daysTillUnseen {l : Launch} {X : Gx} {f : Hp} {b : Nat} (hb : b < 3) {d cc_ : Int32} {s nu : Nat → Int32} {vv : Nat → Nat → Int32} {n : Nat} (hN : cc_ = nI n) (h8 : n ≤ 8) (hnu : ∀ p, p < n → nu p = nI p) (hok : ∀ p, p < n → okV (vv p)) {P : Nat} (hP : P < n) : Ci l X yX5_daysTillUnseen cX5_daysTillUnseen 3 (some .int) (rmk 5 110) [.ref (ga X (1 + 11 * b)), .int (nI P)] (qH X f b d cc_ s nu vv) (fun z g => z = nI ((uns n vv P).getD 201) ∧ ∃ d2 v2, g = qH X f b d2 cc_ s nu v2) := by
  refine ct_i (own := RX5) (lv := [some (.ref (ga X (1 + 11 * b))), some (.int (nI P)), none]) (by decide) rfl (Nat.le_of_ble_eq_true rfl) (Nat.le_of_ble_eq_true rfl) rfl (fun C hC hR => ?_)
  have loop : ∀ j, j ≤ 201 → uns n vv P = fstN (unsB n vv P) (201 - j) j → V l X (rmk 5 110) C (qH X f b (d + nI j) cc_ s nu (dyV vv n j 0)) 2 [some (.ref (ga X (1 + 11 * b))), some (.int (nI P)), some (.int (nI j))] [] := by
    refine v_up 201 ?_ ?_
    · intro hI
      have hI : uns n vv P = none := hI
      refine v_iload_n hC rfl dX5_daysTillUnseen_2 (q := 3) rfl ?_
      refine v_sipush hC (v := 200) rfl dX5_daysTillUnseen_3 (q := 6) rfl ?_
      refine v_icmp_gt hC dX5_daysTillUnseen_6 (t := 33) rfl (q := 9) rfl (fun _ => ?_) (fun h => absurd (by decide) h)
      refine v_sipush hC (v := 201) rfl dX5_daysTillUnseen_33 (q := 36) rfl ?_
      refine hR _ _ _ _ ?_ dX5_daysTillUnseen_36
      exact ⟨by rw [hI]; rfl, _, _, rfl⟩
    · intro j hj ih hI
      rw [show 201 - j = (201 - (j + 1)) + 1 by omega, fstN] at hI
      refine v_iload_n hC rfl dX5_daysTillUnseen_2 (q := 3) rfl ?_
      refine v_sipush hC (v := 200) rfl dX5_daysTillUnseen_3 (q := 6) rfl ?_
      refine v_icmp_gt hC dX5_daysTillUnseen_6 (t := 33) rfl (q := 9) rfl (fun h => absurd h (Int32.not_lt.mpr (nI_le (b := 200) (by omega) (by decide)))) (fun _ => ?_)
      refine v_aload_n hC rfl dX5_daysTillUnseen_9 (q := 10) rfl ?_
      refine v_Vi hC lkV_X5_142 (c_X1_thoseSeen hb hN h8 hnu (fun p hp => dyV_ok hok hp)) rfl (by decide) (k := 1 + 11 * b) (by omega) qH_q rfl rfl (Nat.le_of_ble_eq_true rfl) dX5_daysTillUnseen_10 (q := 13) rfl ?_
      rintro _ _ ⟨rfl, rfl⟩
      refine v_iconst hC (v := 1) rfl dX5_daysTillUnseen_13 (q := 14) rfl ?_
      refine v_iload_n hC rfl dX5_daysTillUnseen_14 (q := 15) rfl ?_
      refine v_ishl hC dX5_daysTillUnseen_15 (q := 16) rfl ?_
      refine v_iand hC dX5_daysTillUnseen_16 (q := 17) rfl ?_
      refine v_if_ne hC dX5_daysTillUnseen_17 (t := 22) rfl (q := 20) rfl (fun h17 => ?_) (fun h17 => ?_)
      · refine v_aload_n hC rfl dX5_daysTillUnseen_22 (q := 23) rfl ?_
        refine v_iconst hC (v := 1) rfl dX5_daysTillUnseen_23 (q := 24) rfl ?_
        refine v_Vv hC lkV_X5_131 (c_X1_letDaysGo hb hN h8 hnu (fun p hp => dyV_ok hok hp) (k := 1) (by decide)) rfl (by decide) (k := 1 + 11 * b) (by omega) qH_q rfl rfl (Nat.le_of_ble_eq_true rfl) dX5_daysTillUnseen_24 (q := 27) rfl ?_
        rintro _ rfl
        refine v_iinc_2 hC (v := _ + 1) rfl rfl dX5_daysTillUnseen_27 (q := 30) rfl ?_
        refine v_goto hC dX5_daysTillUnseen_30 (t := 2) rfl ?_
        refine v_same ?_ ?_ rfl (ih ?_)
        · rw [dyV_1, show nI 1 = 1 from rfl, add_1]
        · simp [nI_1]
        · rw [hI, if_neg (by simp only [unsB, decide_eq_true_eq]; rw [← bit_iff _ (by omega), seenF_congr (g' := dyV vv n j 0) n (fun p hp => (dyV_it hp).symm)]; exact h17)]
      · refine v_iload_n hC rfl dX5_daysTillUnseen_20 (q := 21) rfl ?_
        refine hR _ _ _ _ ?_ dX5_daysTillUnseen_21
        rw [if_pos (by simp only [unsB, decide_eq_true_eq]; rw [← bit_iff _ (by omega), seenF_congr (g' := dyV vv n j 0) n (fun p hp => (dyV_it hp).symm)]; exact h17)] at hI
        exact ⟨by rw [hI]; rfl, _, _, rfl⟩
  refine v_iconst hC (v := 0) rfl dX5_daysTillUnseen_0 (q := 1) rfl ?_
  refine v_istore_2 hC rfl dX5_daysTillUnseen_1 (q := 2) rfl ?_
  refine v_same ?_ rfl rfl (loop 0 (by decide) (uns_eq _ _ _))
  rw [add_0, dyV_0]

theorem mix8_u {n : Nat} {x : Int32} {a : Nat → Int32} (h : n < 8) : mixN 8 (upd a n x) a = upd a n x := by
  funext k
  simp only [mixN, upd]
  by_cases h1 : k < 8
  · rw [if_pos h1]
  · rw [if_neg h1, if_neg (by omega)]
theorem mix8_v {α : Type} {n : Nat} {x : α} {a : Nat → α} (h : n < 8) : mixN 8 (va_up a n x) a = va_up a n x := by
  funext k
  simp only [mixN, va_up]
  by_cases h1 : k < 8
  · rw [if_pos h1]
  · rw [if_neg h1, if_neg (by omega)]
theorem mix8_id {α : Type} {a : Nat → α} : mixN 8 a a = a := by funext k; simp [mixN]
theorem mix8_m {α : Type} {n : Nat} {a b : Nat → α} (h : n ≤ 8) : mixN 8 (mixN n a b) b = mixN n a b := by
  funext k
  simp only [mixN]
  by_cases h1 : k < 8
  · rw [if_pos h1]
  · rw [if_neg h1, if_neg (by omega)]
theorem mix8_d {vv : Nat → Nat → Int32} {n i : Nat} (h : n ≤ 8) : mixN 8 (dyV vv n i 0) vv = dyV vv n i 0 := by
  funext k
  simp only [mixN, dyV]
  by_cases h1 : k < 8
  · rw [if_pos h1]
  · rw [if_neg h1, if_neg (by omega)]
theorem upd_00 {a : Nat → Int32} {x : Int32} : upd (upd a 0 (a 0)) 1 x = upd a 1 x := by rw [upd_id (v := a) (j := 0) rfl]
theorem upd_same {a : Nat → Int32} {x : Int32} : upd (upd a 0 x) 1 (a 1) = upd a 0 x := by
  rw [upd_id]
  rfl
theorem c_X1_grudges_C {l : Launch} {X : Gx} {M : MS} {q nu : Nat → Nat → Int32} {vc : Nat → Nat → Nat → Int32} {sb : Nat → Nat → Int32} {tp by_ : Nat → Int32} {sh : Nat → Nat → Int32} {nn : Nat → Nat → Int64} {fo : Nat → Int32} {kp : Int32} {b : Nat} (hb : b < 3) {n : Nat} (hN : q b 1 = nI n) (h8 : n ≤ 8) : Ci l X yX1_grudges cX1_grudges 3 (some .int) (rmk 0 0) [.ref (ga X (1 + 11 * b))] (ch X M q nu vc sb tp by_ sh nn fo kp) (fun z g => z = sumF (vc b) 1 n ∧ g = ch X M q nu vc sb tp by_ sh nn fo kp) := by
  have h := c_X1_grudges (l := l) (X := X) (f := ch X M q nu vc sb tp by_ sh nn fo kp) hb (d := q b 0) (cc_ := q b 1) (s := sb b) (nu := nu b) (vv := vc b) hN h8
  rw [← ch_qH hb] at h
  exact h
theorem c_X1_wornTogether_C {l : Launch} {X : Gx} {M : MS} {q nu : Nat → Nat → Int32} {vc : Nat → Nat → Nat → Int32} {sb : Nat → Nat → Int32} {tp by_ : Nat → Int32} {sh : Nat → Nat → Int32} {nn : Nat → Nat → Int64} {fo : Nat → Int32} {kp : Int32} {b : Nat} (hb : b < 3) {n : Nat} (hN : q b 1 = nI n) (h8 : n ≤ 8) : Ci l X yX1_wornTogether cX1_wornTogether 3 (some .int) (rmk 0 0) [.ref (ga X (1 + 11 * b))] (ch X M q nu vc sb tp by_ sh nn fo kp) (fun z g => z = sumF (vc b) 6 n ∧ g = ch X M q nu vc sb tp by_ sh nn fo kp) := by
  have h := c_X1_wornTogether (l := l) (X := X) (f := ch X M q nu vc sb tp by_ sh nn fo kp) hb (d := q b 0) (cc_ := q b 1) (s := sb b) (nu := nu b) (vv := vc b) hN h8
  rw [← ch_qH hb] at h
  exact h
theorem c_X1_pairsThatShowNobody_C {l : Launch} {X : Gx} {M : MS} {q nu : Nat → Nat → Int32} {vc : Nat → Nat → Nat → Int32} {sb : Nat → Nat → Int32} {tp by_ : Nat → Int32} {sh : Nat → Nat → Int32} {nn : Nat → Nat → Int64} {fo : Nat → Int32} {kp : Int32} {b : Nat} (hb : b < 3) {n : Nat} (hN : q b 1 = nI n) (h8 : n ≤ 8) : Ci l X yX1_pairsThatShowNobody cX1_pairsThatShowNobody 3 (some .int) (rmk 0 0) [.ref (ga X (1 + 11 * b))] (ch X M q nu vc sb tp by_ sh nn fo kp) (fun z g => z = nI (cntN (fun p => decide (vc b p 4 = -1)) n) ∧ g = ch X M q nu vc sb tp by_ sh nn fo kp) := by
  have h := c_X1_pairsThatShowNobody (l := l) (X := X) (f := ch X M q nu vc sb tp by_ sh nn fo kp) hb (d := q b 0) (cc_ := q b 1) (s := sb b) (nu := nu b) (vv := vc b) hN h8
  rw [← ch_qH hb] at h
  exact h
theorem c_X1_thoseWithoutGrudge_C {l : Launch} {X : Gx} {M : MS} {q nu : Nat → Nat → Int32} {vc : Nat → Nat → Nat → Int32} {sb : Nat → Nat → Int32} {tp by_ : Nat → Int32} {sh : Nat → Nat → Int32} {nn : Nat → Nat → Int64} {fo : Nat → Int32} {kp : Int32} {b : Nat} (hb : b < 3) {n : Nat} (hN : q b 1 = nI n) (h8 : n ≤ 8) : Ci l X yX1_thoseWithoutGrudge cX1_thoseWithoutGrudge 3 (some .int) (rmk 0 0) [.ref (ga X (1 + 11 * b))] (ch X M q nu vc sb tp by_ sh nn fo kp) (fun z g => z = withF (vc b) 1 0 n ∧ g = ch X M q nu vc sb tp by_ sh nn fo kp) := by
  have h := c_X1_thoseWithoutGrudge (l := l) (X := X) (f := ch X M q nu vc sb tp by_ sh nn fo kp) hb (d := q b 0) (cc_ := q b 1) (s := sb b) (nu := nu b) (vv := vc b) hN h8
  rw [← ch_qH hb] at h
  exact h
theorem c_X1_thoseUp_C {l : Launch} {X : Gx} {M : MS} {q nu : Nat → Nat → Int32} {vc : Nat → Nat → Nat → Int32} {sb : Nat → Nat → Int32} {tp by_ : Nat → Int32} {sh : Nat → Nat → Int32} {nn : Nat → Nat → Int64} {fo : Nat → Int32} {kp : Int32} {b : Nat} (hb : b < 3) {n : Nat} (hN : q b 1 = nI n) (h8 : n ≤ 8) (hu : ∀ p, p < n → (vc b p 3 = 0 ∨ vc b p 3 = 1)) : Ci l X yX1_thoseUp cX1_thoseUp 3 (some .int) (rmk 0 0) [.ref (ga X (1 + 11 * b))] (ch X M q nu vc sb tp by_ sh nn fo kp) (fun z g => z = withF (vc b) 3 1 n ∧ g = ch X M q nu vc sb tp by_ sh nn fo kp) := by
  have h := c_X1_thoseUp (l := l) (X := X) (f := ch X M q nu vc sb tp by_ sh nn fo kp) hb (d := q b 0) (cc_ := q b 1) (s := sb b) (nu := nu b) (vv := vc b) hN h8 hu
  rw [← ch_qH hb] at h
  exact h
theorem c_X1_isFull_C {l : Launch} {X : Gx} {M : MS} {q nu : Nat → Nat → Int32} {vc : Nat → Nat → Nat → Int32} {sb : Nat → Nat → Int32} {tp by_ : Nat → Int32} {sh : Nat → Nat → Int32} {nn : Nat → Nat → Int64} {fo : Nat → Int32} {kp : Int32} {b : Nat} (hb : b < 3) {n : Nat} (hN : q b 1 = nI n) (h8 : n ≤ 8) : Ci l X yX1_isFull cX1_isFull 1 (some .boolean) (rmk 0 0) [.ref (ga X (1 + 11 * b))] (ch X M q nu vc sb tp by_ sh nn fo kp) (fun z g => (n = 8 ∧ z = 1 ∨ ¬ n = 8 ∧ z = 0) ∧ g = ch X M q nu vc sb tp by_ sh nn fo kp) := by
  have h := c_X1_isFull (l := l) (X := X) (f := ch X M q nu vc sb tp by_ sh nn fo kp) hb (d := q b 0) (cc_ := q b 1) (s := sb b) (nu := nu b) (vv := vc b) hN h8
  rw [← ch_qH hb] at h
  exact h
theorem c_X1_all_C {l : Launch} {X : Gx} {M : MS} {q nu : Nat → Nat → Int32} {vc : Nat → Nat → Nat → Int32} {sb : Nat → Nat → Int32} {tp by_ : Nat → Int32} {sh : Nat → Nat → Int32} {nn : Nat → Nat → Int64} {fo : Nat → Int32} {kp : Int32} {b : Nat} (hb : b < 3) {n : Nat} (hN : q b 1 = nI n) (h8 : n ≤ 8) : Ci l X yX1_all cX1_all 1 (some .int) (rmk 0 0) [.ref (ga X (1 + 11 * b))] (ch X M q nu vc sb tp by_ sh nn fo kp) (fun z g => z = allI n ∧ g = ch X M q nu vc sb tp by_ sh nn fo kp) := by
  have h := c_X1_all (l := l) (X := X) (f := ch X M q nu vc sb tp by_ sh nn fo kp) hb (d := q b 0) (cc_ := q b 1) (s := sb b) (nu := nu b) (vv := vc b) hN h8
  rw [← ch_qH hb] at h
  exact h
theorem c_X1_othersAsSharpAs_C {l : Launch} {X : Gx} {M : MS} {q nu : Nat → Nat → Int32} {vc : Nat → Nat → Nat → Int32} {sb : Nat → Nat → Int32} {tp by_ : Nat → Int32} {sh : Nat → Nat → Int32} {nn : Nat → Nat → Int64} {fo : Nat → Int32} {kp : Int32} {b : Nat} (hb : b < 3) {n : Nat} (hN : q b 1 = nI n) (h8 : n ≤ 8) (hnu : ∀ p, p < n → nu b p = nI p) (hok : ∀ p, p < n → okV (vc b p)) {p : Nat} (hp : p < n) {v : Int32} : Ci l X yX1_othersAsSharpAs cX1_othersAsSharpAs 5 (some .int) (rmk 2 45) [.ref (ga X (1 + 11 * b)), .int (nI p), .int v] (ch X M q nu vc sb tp by_ sh nn fo kp) (fun z g => z = seesF (nI p) (vc b p) v n ∧ g = ch X M q nu vc sb tp by_ sh nn fo kp) := by
  have h := c_X1_othersAsSharpAs (l := l) (X := X) (f := ch X M q nu vc sb tp by_ sh nn fo kp) hb (d := q b 0) (cc_ := q b 1) (s := sb b) (nu := nu b) (vv := vc b) hN h8 hnu hok hp (v := v)
  rw [← ch_qH hb] at h
  exact h
theorem c_X1_thoseSeen_C {l : Launch} {X : Gx} {M : MS} {q nu : Nat → Nat → Int32} {vc : Nat → Nat → Nat → Int32} {sb : Nat → Nat → Int32} {tp by_ : Nat → Int32} {sh : Nat → Nat → Int32} {nn : Nat → Nat → Int64} {fo : Nat → Int32} {kp : Int32} {b : Nat} (hb : b < 3) {n : Nat} (hN : q b 1 = nI n) (h8 : n ≤ 8) (hnu : ∀ p, p < n → nu b p = nI p) (hok : ∀ p, p < n → okV (vc b p)) : Ci l X yX1_thoseSeen cX1_thoseSeen 3 (some .int) (rmk 3 69) [.ref (ga X (1 + 11 * b))] (ch X M q nu vc sb tp by_ sh nn fo kp) (fun z g => z = seenF (vc b) n n ∧ g = ch X M q nu vc sb tp by_ sh nn fo kp) := by
  have h := c_X1_thoseSeen (l := l) (X := X) (f := ch X M q nu vc sb tp by_ sh nn fo kp) hb (d := q b 0) (cc_ := q b 1) (s := sb b) (nu := nu b) (vv := vc b) hN h8 hnu hok
  rw [← ch_qH hb] at h
  exact h
theorem c_X1_sharpestOfAll_C {l : Launch} {X : Gx} {M : MS} {q nu : Nat → Nat → Int32} {vc : Nat → Nat → Nat → Int32} {sb : Nat → Nat → Int32} {tp by_ : Nat → Int32} {sh : Nat → Nat → Int32} {nn : Nat → Nat → Int64} {fo : Nat → Int32} {kp : Int32} {b : Nat} (hb : b < 3) {n : Nat} (hN : q b 1 = nI n) (h8 : n ≤ 8) (hnu : ∀ p, p < n → nu b p = nI p) (hok : ∀ p, p < n → okV (vc b p)) : Ci l X yX1_sharpestOfAll cX1_sharpestOfAll 5 (some .int) (rmk 3 68) [.ref (ga X (1 + 11 * b))] (ch X M q nu vc sb tp by_ sh nn fo kp) (fun z g => z = nI ((shaF (fun p => allF (nI p) (vc b p) n) n).2.getD 0) ∧ g = ch X M q nu vc sb tp by_ sh nn fo kp) := by
  have h := c_X1_sharpestOfAll (l := l) (X := X) (f := ch X M q nu vc sb tp by_ sh nn fo kp) hb (d := q b 0) (cc_ := q b 1) (s := sb b) (nu := nu b) (vv := vc b) hN h8 hnu hok
  rw [← ch_qH hb] at h
  exact h
theorem c_X1_seenWithUp_C {l : Launch} {X : Gx} {M : MS} {q nu : Nat → Nat → Int32} {vc : Nat → Nat → Nat → Int32} {sb : Nat → Nat → Int32} {tp by_ : Nat → Int32} {sh : Nat → Nat → Int32} {nn : Nat → Nat → Int64} {fo : Nat → Int32} {kp : Int32} {b : Nat} (hb : b < 3) {n : Nat} (hN : q b 1 = nI n) (h8 : n ≤ 8) {st : Int32} : Ci l X yX1_seenWithUp cX1_seenWithUp 5 (some .int) (rmk 1 20) [.ref (ga X (1 + 11 * b)), .int st] (ch X M q nu vc sb tp by_ sh nn fo kp) (fun z g => z = swF (sb b) n st n ∧ g = ch X M q nu vc sb tp by_ sh nn fo kp) := by
  have h := c_X1_seenWithUp (l := l) (X := X) (f := ch X M q nu vc sb tp by_ sh nn fo kp) hb (d := q b 0) (cc_ := q b 1) (s := sb b) (nu := nu b) (vv := vc b) hN h8 (st := st)
  rw [← ch_qH hb] at h
  exact h
theorem c_X1_noteWhoSeesWhom_C {l : Launch} {X : Gx} {M : MS} {q nu : Nat → Nat → Int32} {vc : Nat → Nat → Nat → Int32} {sb : Nat → Nat → Int32} {tp by_ : Nat → Int32} {sh : Nat → Nat → Int32} {nn : Nat → Nat → Int64} {fo : Nat → Int32} {kp : Int32} {b : Nat} (hb : b < 3) {n : Nat} (hN : q b 1 = nI n) (h8 : n ≤ 8) (hnu : ∀ p, p < n → nu b p = nI p) (hok : ∀ p, p < n → okV (vc b p)) : Cv l X yX1_noteWhoSeesWhom cX1_noteWhoSeesWhom 2 none (rmk 3 69) [.ref (ga X (1 + 11 * b))] (ch X M q nu vc sb tp by_ sh nn fo kp) (fun g => g = ch X M q nu vc (va_up sb b (ntR (vc b) n (sb b) n)) tp by_ sh nn fo kp) := by
  have h := c_X1_noteWhoSeesWhom (l := l) (X := X) (f := ch X M q nu vc sb tp by_ sh nn fo kp) hb (d := q b 0) (cc_ := q b 1) (s := sb b) (nu := nu b) (vv := vc b) hN h8 hnu hok
  rw [← ch_qH hb] at h
  simp only [qH_ch hb, mix8_id, up_id, upd_00, upd_id (v := q b) (j := 1) rfl] at h
  exact h
theorem c_X1_welcome_C {l : Launch} {X : Gx} {M : MS} {q nu : Nat → Nat → Int32} {vc : Nat → Nat → Nat → Int32} {sb : Nat → Nat → Int32} {tp by_ : Nat → Int32} {sh : Nat → Nat → Int32} {nn : Nat → Nat → Int64} {fo : Nat → Int32} {kp : Int32} {b : Nat} (hb : b < 3) {n : Nat} (hN : q b 1 = nI n) (h8 : n < 8) {kd : Int32} : Cr l X yX1_welcome cX1_welcome 3 (some (.object "GrudgeGlasses$One")) (rmk 1 22) [.ref (ga X (1 + 11 * b)), .int kd] (ch X M q nu vc sb tp by_ sh nn fo kp) (fun r g => r = ga X (4 + 11 * b + n) ∧ g = ch X M (va_up q b (upd (q b) 1 (nI n + 1))) (va_up nu b (upd (nu b) n (nI n))) (va_up vc b (va_up (vc b) n (newV kd 20 (-1)))) sb tp by_ sh nn fo kp) := by
  have h := c_X1_welcome (l := l) (X := X) (f := ch X M q nu vc sb tp by_ sh nn fo kp) hb (d := q b 0) (cc_ := q b 1) (s := sb b) (nu := nu b) (vv := vc b) hN h8 (kd := kd)
  rw [← ch_qH hb] at h
  simp only [qH_ch hb, mix8_u h8, mix8_v h8, up_id, upd_00] at h
  exact h
theorem c_X1_letDaysGo_C {l : Launch} {X : Gx} {M : MS} {q nu : Nat → Nat → Int32} {vc : Nat → Nat → Nat → Int32} {sb : Nat → Nat → Int32} {tp by_ : Nat → Int32} {sh : Nat → Nat → Int32} {nn : Nat → Nat → Int64} {fo : Nat → Int32} {kp : Int32} {b : Nat} (hb : b < 3) {n : Nat} (hN : q b 1 = nI n) (h8 : n ≤ 8) (hnu : ∀ p, p < n → nu b p = nI p) (hok : ∀ p, p < n → okV (vc b p)) {k : Nat} (hk : k < 2147483648) : Cv l X yX1_letDaysGo cX1_letDaysGo 4 none (rmk 4 87) [.ref (ga X (1 + 11 * b)), .int (nI k)] (ch X M q nu vc sb tp by_ sh nn fo kp) (fun g => g = ch X M (va_up q b (upd (q b) 0 (q b 0 + nI k))) nu (va_up vc b (dyV (vc b) n k 0)) sb tp by_ sh nn fo kp) := by
  have h := c_X1_letDaysGo (l := l) (X := X) (f := ch X M q nu vc sb tp by_ sh nn fo kp) hb (d := q b 0) (cc_ := q b 1) (s := sb b) (nu := nu b) (vv := vc b) hN h8 hnu hok hk
  rw [← ch_qH hb] at h
  simp only [qH_ch hb, mix8_id, mix8_d h8, up_id, upd_same] at h
  exact h
theorem c_X1_become_C {l : Launch} {X : Gx} {M : MS} {q nu : Nat → Nat → Int32} {vc : Nat → Nat → Nat → Int32} {sb : Nat → Nat → Int32} {tp by_ : Nat → Int32} {sh : Nat → Nat → Int32} {nn : Nat → Nat → Int64} {fo : Nat → Int32} {kp : Int32} {b : Nat} (hb : b < 3) {b2 : Nat} (hb2 : b2 < 3) (hne : b2 ≠ b) {n : Nat} (hN : q b2 1 = nI n) (h8 : n ≤ 8) : Cv l X yX1_become cX1_become 3 none (rmk 2 42) [.ref (ga X (1 + 11 * b)), .ref (ga X (1 + 11 * b2))] (ch X M q nu vc sb tp by_ sh nn fo kp) (fun g => g = ch X M (va_up q b (upd (upd (q b) 0 (q b2 0)) 1 (q b2 1))) (va_up nu b (mixN n (nu b2) (nu b))) (va_up vc b (mixN n (vc b2) (vc b))) sb tp by_ sh nn fo kp) := by
  have h := c_X1_become (l := l) (X := X) (f := ch X M q nu vc sb tp by_ sh nn fo kp) hb (d := q b 0) (cc_ := q b 1) (s := sb b) (nu := nu b) (vv := vc b) hb2 hne (d2 := q b2 0) (c2 := q b2 1) (nu2 := nu b2) (vv2 := vc b2) hN h8 (ch_q hb2) (ch_p hb2) (fun k hk => ch_o hb2 (Or.inl hk))
  rw [← ch_qH hb] at h
  simp only [qH_ch hb, mix8_m h8, up_id] at h
  exact h