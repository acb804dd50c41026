theorem tol_of {k : Int32} {v : Nat → Int32} {w : Int32} (h0 : 0 ≤ w) (h9 : w ≤ 9) : tolF k v w = if w < 7 then v w.toNatClampNeg else if w = 7 then grindF v else if w = 8 then easeF k v else growF k v := by
  obtain ⟨W, -, hW, rfl⟩ := w_of' (a := 0) (N := 9) (by decide) (by decide) h0 h9
  rcases (show W = 0 ∨ W = 1 ∨ W = 2 ∨ W = 3 ∨ W = 4 ∨ W = 5 ∨ W = 6 ∨ W = 7 ∨ W = 8 ∨ W = 9 by omega) with rfl | rfl | rfl | rfl | rfl | rfl | rfl | rfl | rfl | rfl <;> simp [tolF, show nI 0 = 0 from rfl, show nI 1 = 1 from rfl, show nI 2 = 2 from rfl, show nI 3 = 3 from rfl, show nI 4 = 4 from rfl, show nI 5 = 5 from rfl, show nI 6 = 6 from rfl, show nI 7 = 7 from rfl, show nI 8 = 8 from rfl, show nI 9 = 9 from rfl, show Int32.toNatClampNeg 0 = 0 from rfl, show Int32.toNatClampNeg 1 = 1 from rfl, show Int32.toNatClampNeg 2 = 2 from rfl, show Int32.toNatClampNeg 3 = 3 from rfl, show Int32.toNatClampNeg 4 = 4 from rfl, show Int32.toNatClampNeg 5 = 5 from rfl, show Int32.toNatClampNeg 6 = 6 from rfl]
set_option maxHeartbeats 4000000 in
set_option maxRecDepth 100000 in
theorem c_X5_of {l : Launch} {X : Gx} {M : MS} {q nu : Nat → Nat → Int32} {vc : Nat → Nat → Nat → Int32} {sb : Nat → Nat → Int32} {tp by_ : Nat → Int32} {sh : Nat → Nat → Int32} {nn : Nat → Nat → Int64} {fo : Nat → Int32} {kp : Int32} {n : Nat} (hN : q 0 1 = nI n) (h8 : n ≤ 8) (hnu : ∀ p, p < n → nu 0 p = nI p) (hok : ∀ p, p < n → okV (vc 0 p)) {p w : Int32} : Ci l X yX5_of cX5_of 3 (some .int) (rmk 4 86) [.ref (ga X 0), .int p, .int w] (ch X M q nu vc sb tp by_ sh nn fo kp) (fun z g => z = ansI (S_of n (vc 0) p w) ∧ g = ch X M q nu vc sb tp by_ sh nn (fnF fo (S_of n (vc 0) p w)) kp) := by
  refine ct_i (own := RX5) (lv := [some (.ref (ga X 0)), some (.int p), some (.int w)]) (by decide) rfl (Nat.le_of_ble_eq_true rfl) (Nat.le_of_ble_eq_true rfl) rfl (fun C hC hR => ?_)
  have hix : ∀ P, P < n → pIx n (nI P) = some P := fun P h => pIx_nI h h8
  have hno : ∀ p, (¬ ∃ P, P < n ∧ p = nI P) → pIx n p = none := fun p h => pIx_no h8 h
  refine v_aload_n hC rfl dX5_of_0 (q := 1) rfl ?_
  refine v_iload_n hC rfl dX5_of_1 (q := 2) rfl ?_
  refine v_Vi hC lkV_X5_73 (c_X5_isThere hN h8) rfl (by decide) (k := 0) (by decide) ch_0 rfl rfl (Nat.le_of_ble_eq_true rfl) dX5_of_2 (q := 5) rfl ?_
  rintro _ _ ⟨⟨⟨P2, hP2, rfl⟩, rfl⟩ | ⟨hc2, rfl⟩, rfl⟩
  · refine v_if_eq hC dX5_of_5 (t := 18) rfl (q := 8) rfl (fun h => absurd h (by decide)) (fun _ => ?_)
    refine v_iload_n hC rfl dX5_of_8 (q := 9) rfl ?_
    refine v_if_lt hC dX5_of_9 (t := 18) rfl (q := 12) rfl (fun h9 => ?_) (fun h9 => ?_)
    · refine v_aload_n hC rfl dX5_of_18 (q := 19) rfl ?_
      refine v_ldc hC wk_X5_55 dX5_of_19 (q := 21) rfl ?_
      refine v_Vi hC lkV_X5_56 (c_X5_finding (n := 0) (by decide)) rfl (by decide) (k := 0) (by decide) ch_0 rfl rfl (Nat.le_of_ble_eq_true rfl) dX5_of_21 (q := 24) rfl ?_
      rintro _ _ ⟨rfl, rfl⟩
      refine hR _ _ _ _ ?_ dX5_of_24
      have hw : ¬ (0 ≤ w ∧ w ≤ 9) := fun z => Int32.not_le.mpr h9 z.1
      (refine ⟨?_, ?_⟩ <;> (simp only [S_of, ansI, fnF, hix _ hP2, if_neg hw]; done))
    · refine v_iload_n hC rfl dX5_of_12 (q := 13) rfl ?_
      refine v_bipush hC (v := 9) rfl dX5_of_13 (q := 15) rfl ?_
      refine v_icmp_le hC dX5_of_15 (t := 25) rfl (q := 18) rfl (fun h15 => ?_) (fun h15 => ?_)
      · refine v_aload_n hC rfl dX5_of_25 (q := 26) rfl ?_
        refine v_get hC fl_X5_12 (k := 0) (by decide) ch_0 rfl dX5_of_26 (q := 29) rfl ?_
        refine v_getN hC nl_X5_76 (k := 1 + 11 * 0) (by decide) (ch_q (b := 0) (by decide)) rfl dX5_of_29 (q := 32) rfl ?_
        refine v_iload_n hC rfl dX5_of_32 (q := 33) rfl ?_
        refine v_aald hC 2 (k := 2 + 11 * 0) (by decide) (ch_p (b := 0) (by decide)) rfl (ix8' (by omega)) (j := P2) (nI_clamp (by omega)) rfl dX5_of_33 (q := 34) rfl ?_
        refine v_iload_n hC rfl dX5_of_34 (q := 35) rfl ?_
        refine v_Vi hC lkV_X5_80 (c_X0_told_F (q := 4 + 11 * 0 + P2) (by omega) (ch_o (by decide) (Or.inl (by omega))) (hok _ hP2)) rfl (by decide) (k := 4 + 11 * 0 + P2) (by omega) (ch_o (b := 0) (k := P2) (by decide) (Or.inl (by omega))) rfl rfl (Nat.le_of_ble_eq_true rfl) dX5_of_35 (q := 38) rfl ?_
        rintro _ _ ⟨rfl, rfl⟩
        refine hR _ _ _ _ ?_ dX5_of_38
        have hw : 0 ≤ w ∧ w ≤ 9 := ⟨Int32.not_lt.mp h9, h15⟩
        rw [hnu _ hP2, tol_of hw.1 hw.2]
        have e1 : ∀ (c1 c2 c3 : Prop) [Decidable c1] [Decidable c2] [Decidable c3] (a1 a2 a3 a4 : Int32), (if c1 then (Sum.inr a1 : An) else if c2 then .inr a2 else if c3 then .inr a3 else .inr a4) = .inr (if c1 then a1 else if c2 then a2 else if c3 then a3 else a4) := by intro c1 c2 c3 _ _ _ a1 a2 a3 a4; split; rfl; split; rfl; split; rfl; rfl
        (refine ⟨?_, ?_⟩ <;> (simp only [S_of, hix _ hP2, if_pos hw, e1, ansI, fnF]; done))
      · refine v_aload_n hC rfl dX5_of_18 (q := 19) rfl ?_
        refine v_ldc hC wk_X5_55 dX5_of_19 (q := 21) rfl ?_
        refine v_Vi hC lkV_X5_56 (c_X5_finding (n := 0) (by decide)) rfl (by decide) (k := 0) (by decide) ch_0 rfl rfl (Nat.le_of_ble_eq_true rfl) dX5_of_21 (q := 24) rfl ?_
        rintro _ _ ⟨rfl, rfl⟩
        refine hR _ _ _ _ ?_ dX5_of_24
        have hw : ¬ (0 ≤ w ∧ w ≤ 9) := fun z => h15 z.2
        (refine ⟨?_, ?_⟩ <;> (simp only [S_of, ansI, fnF, hix _ hP2, if_neg hw]; done))
  · refine v_if_eq hC dX5_of_5 (t := 18) rfl (q := 8) rfl (fun _ => ?_) (fun h => absurd h (by decide))
    refine v_aload_n hC rfl dX5_of_18 (q := 19) rfl ?_
    refine v_ldc hC wk_X5_55 dX5_of_19 (q := 21) rfl ?_
    refine v_Vi hC lkV_X5_56 (c_X5_finding (n := 0) (by decide)) rfl (by decide) (k := 0) (by decide) ch_0 rfl rfl (Nat.le_of_ble_eq_true rfl) dX5_of_21 (q := 24) rfl ?_
    rintro _ _ ⟨rfl, rfl⟩
    refine hR _ _ _ _ ?_ dX5_of_24
    (refine ⟨?_, ?_⟩ <;> (simp [S_of, ansI, fnF, hno _ hc2]; done))

set_option maxHeartbeats 4000000 in
set_option maxRecDepth 100000 in
theorem c_X5_looks {l : Launch} {X : Gx} {M : MS} {q nu : Nat → Nat → Int32} {vc : Nat → Nat → Nat → Int32} {sb : Nat → Nat → Int32} {tp by_ : Nat → Int32} {sh : Nat → Nat → Int32} {nn : Nat → Nat → Int64} {fo : Nat → Int32} {kp : Int32} {n : Nat} (hN : q 0 1 = nI n) (h8 : n ≤ 8) (hnu : ∀ p, p < n → nu 0 p = nI p) (hok : ∀ p, p < n → okV (vc 0 p)) {p q_ : Int32} : Ci l X yX5_looks cX5_looks 3 (some .int) (rmk 2 45) [.ref (ga X 0), .int p, .int q_] (ch X M q nu vc sb tp by_ sh nn fo kp) (fun z g => z = ansI (S_looks n (vc 0) p q_) ∧ g = ch X M q nu vc sb tp by_ sh nn (fnF fo (S_looks n (vc 0) p q_)) kp) := by
  refine ct_i (own := RX5) (lv := [some (.ref (ga X 0)), some (.int p), some (.int q_)]) (by decide) rfl (Nat.le_of_ble_eq_true rfl) (Nat.le_of_ble_eq_true rfl) rfl (fun C hC hR => ?_)
  have hix : ∀ P Q, P < n → Q < n → P ≠ Q → pTw n (nI P) (nI Q) = some (P, Q) := fun P Q a b c => pTw_nI h8 a b c
  have hno : ∀ p q, (¬ ∃ P Q, P < n ∧ Q < n ∧ P ≠ Q ∧ p = nI P ∧ q = nI Q) → pTw n p q = none := fun p q h => pTw_no h8 h
  refine v_aload_n hC rfl dX5_looks_0 (q := 1) rfl ?_
  refine v_iload_n hC rfl dX5_looks_1 (q := 2) rfl ?_
  refine v_iload_n hC rfl dX5_looks_2 (q := 3) rfl ?_
  refine v_Vi hC lkV_X5_111 (c_X5_areTwo hN h8) rfl (by decide) (k := 0) (by decide) ch_0 rfl rfl (Nat.le_of_ble_eq_true rfl) dX5_looks_3 (q := 6) rfl ?_
  rintro _ _ ⟨⟨⟨P3, Q3, hP3, hQ3, hne3, rfl, rfl⟩, rfl⟩ | ⟨hc3, rfl⟩, rfl⟩
  · refine v_if_ne hC dX5_looks_6 (t := 16) rfl (q := 9) rfl (fun _ => ?_) (fun h => absurd h (by decide))
    refine v_aload_n hC rfl dX5_looks_16 (q := 17) rfl ?_
    refine v_get hC fl_X5_12 (k := 0) (by decide) ch_0 rfl dX5_looks_17 (q := 20) rfl ?_
    refine v_getN hC nl_X5_76 (k := 1 + 11 * 0) (by decide) (ch_q (b := 0) (by decide)) rfl dX5_looks_20 (q := 23) rfl ?_
    refine v_iload_n hC rfl dX5_looks_23 (q := 24) rfl ?_
    refine v_aald hC 2 (k := 2 + 11 * 0) (by decide) (ch_p (b := 0) (by decide)) rfl (ix8' (by omega)) (j := P3) (nI_clamp (by omega)) rfl dX5_looks_24 (q := 25) rfl ?_
    refine v_iload_n hC rfl dX5_looks_25 (q := 26) rfl ?_
    refine v_Vi hC lkV_X5_118 (c_X0_sharpnessAt_F (q := 4 + 11 * 0 + P3) (by omega) (ch_o (by decide) (Or.inl (by omega))) (hok _ hP3)) rfl (by decide) (k := 4 + 11 * 0 + P3) (by omega) (ch_o (b := 0) (k := P3) (by decide) (Or.inl (by omega))) rfl rfl (Nat.le_of_ble_eq_true rfl) dX5_looks_26 (q := 29) rfl ?_
    rintro _ _ ⟨rfl, rfl⟩
    refine hR _ _ _ _ ?_ dX5_looks_29
    rw [hnu _ hP3]
    (refine ⟨?_, ?_⟩ <;> (simp only [S_looks, ansI, fnF, hix _ _ hP3 hQ3 hne3]; done))
  · refine v_if_ne hC dX5_looks_6 (t := 16) rfl (q := 9) rfl (fun h => absurd h (by decide)) (fun _ => ?_)
    refine v_aload_n hC rfl dX5_looks_9 (q := 10) rfl ?_
    refine v_ldc hC wk_X5_55 dX5_looks_10 (q := 12) rfl ?_
    refine v_Vi hC lkV_X5_56 (c_X5_finding (n := 0) (by decide)) rfl (by decide) (k := 0) (by decide) ch_0 rfl rfl (Nat.le_of_ble_eq_true rfl) dX5_looks_12 (q := 15) rfl ?_
    rintro _ _ ⟨rfl, rfl⟩
    refine hR _ _ _ _ ?_ dX5_looks_15
    (refine ⟨?_, ?_⟩ <;> (simp [S_looks, ansI, fnF, hno _ _ hc3]; done))

set_option maxHeartbeats 4000000 in
set_option maxRecDepth 100000 in
theorem c_X5_sees {l : Launch} {X : Gx} {M : MS} {q nu : Nat → Nat → Int32} {vc : Nat → Nat → Nat → Int32} {sb : Nat → Nat → Int32} {tp by_ : Nat → Int32} {sh : Nat → Nat → Int32} {nn : Nat → Nat → Int64} {fo : Nat → Int32} {kp : Int32} {n : Nat} (hN : q 0 1 = nI n) (h8 : n ≤ 8) (hnu : ∀ p, p < n → nu 0 p = nI p) (hok : ∀ p, p < n → okV (vc 0 p)) {p v : Int32} : Ci l X yX5_sees cX5_sees 3 (some .int) (rmk 3 69) [.ref (ga X 0), .int p, .int v] (ch X M q nu vc sb tp by_ sh nn fo kp) (fun z g => z = ansI (S_sees n (vc 0) p v) ∧ g = ch X M q nu vc sb tp by_ sh nn (fnF fo (S_sees n (vc 0) p v)) kp) := by
  refine ct_i (own := RX5) (lv := [some (.ref (ga X 0)), some (.int p), some (.int v)]) (by decide) rfl (Nat.le_of_ble_eq_true rfl) (Nat.le_of_ble_eq_true rfl) rfl (fun C hC hR => ?_)
  have hix : ∀ P, P < n → pIx n (nI P) = some P := fun P h => pIx_nI h h8
  have hno : ∀ p, (¬ ∃ P, P < n ∧ p = nI P) → pIx n p = none := fun p h => pIx_no h8 h
  refine v_aload_n hC rfl dX5_sees_0 (q := 1) rfl ?_
  refine v_iload_n hC rfl dX5_sees_1 (q := 2) rfl ?_
  refine v_Vi hC lkV_X5_73 (c_X5_isThere hN h8) rfl (by decide) (k := 0) (by decide) ch_0 rfl rfl (Nat.le_of_ble_eq_true rfl) dX5_sees_2 (q := 5) rfl ?_
  rintro _ _ ⟨⟨⟨P2, hP2, rfl⟩, rfl⟩ | ⟨hc2, rfl⟩, rfl⟩
  · refine v_if_eq hC dX5_sees_5 (t := 18) rfl (q := 8) rfl (fun h => absurd h (by decide)) (fun _ => ?_)
    refine v_iload_n hC rfl dX5_sees_8 (q := 9) rfl ?_
    refine v_sipush hC (v := 198) rfl dX5_sees_9 (q := 12) rfl ?_
    refine v_Si hC lkS_X5_121 c_X5_isUpTo rfl (by decide) rfl (Nat.le_of_ble_eq_true rfl) dX5_sees_12 (q := 15) rfl ?_
    rintro _ _ ⟨⟨hc12, rfl⟩ | ⟨hc12, rfl⟩, rfl⟩
    · refine v_if_ne hC dX5_sees_15 (t := 25) rfl (q := 18) rfl (fun _ => ?_) (fun h => absurd h (by decide))
      refine v_aload_n hC rfl dX5_sees_25 (q := 26) rfl ?_
      refine v_get hC fl_X5_12 (k := 0) (by decide) ch_0 rfl dX5_sees_26 (q := 29) rfl ?_
      refine v_iload_n hC rfl dX5_sees_29 (q := 30) rfl ?_
      refine v_iload_n hC rfl dX5_sees_30 (q := 31) rfl ?_
      refine v_Vi hC lkV_X5_124 (c_X1_othersAsSharpAs_C (b := 0) (by decide) hN h8 hnu hok hP2) rfl (by decide) (k := 1 + 11 * 0) (by decide) (ch_q (b := 0) (by decide)) rfl rfl (Nat.le_of_ble_eq_true rfl) dX5_sees_31 (q := 34) rfl ?_
      rintro _ _ ⟨rfl, rfl⟩
      refine hR _ _ _ _ ?_ dX5_sees_34
      (refine ⟨?_, ?_⟩ <;> (simp only [S_sees, ansI, fnF, hix _ hP2, if_pos hc12]; done))
    · refine v_if_ne hC dX5_sees_15 (t := 25) rfl (q := 18) rfl (fun h => absurd h (by decide)) (fun _ => ?_)
      refine v_aload_n hC rfl dX5_sees_18 (q := 19) rfl ?_
      refine v_ldc hC wk_X5_55 dX5_sees_19 (q := 21) rfl ?_
      refine v_Vi hC lkV_X5_56 (c_X5_finding (n := 0) (by decide)) rfl (by decide) (k := 0) (by decide) ch_0 rfl rfl (Nat.le_of_ble_eq_true rfl) dX5_sees_21 (q := 24) rfl ?_
      rintro _ _ ⟨rfl, rfl⟩
      refine hR _ _ _ _ ?_ dX5_sees_24
      (refine ⟨?_, ?_⟩ <;> (simp only [S_sees, ansI, fnF, hix _ hP2, if_neg hc12]; done))
  · refine v_if_eq hC dX5_sees_5 (t := 18) rfl (q := 8) rfl (fun _ => ?_) (fun h => absurd h (by decide))
    refine v_aload_n hC rfl dX5_sees_18 (q := 19) rfl ?_
    refine v_ldc hC wk_X5_55 dX5_sees_19 (q := 21) rfl ?_
    refine v_Vi hC lkV_X5_56 (c_X5_finding (n := 0) (by decide)) rfl (by decide) (k := 0) (by decide) ch_0 rfl rfl (Nat.le_of_ble_eq_true rfl) dX5_sees_21 (q := 24) rfl ?_
    rintro _ _ ⟨rfl, rfl⟩
    refine hR _ _ _ _ ?_ dX5_sees_24
    (refine ⟨?_, ?_⟩ <;> (simp [S_sees, ansI, fnF, hno _ hc2]; done))

set_option maxHeartbeats 4000000 in
set_option maxRecDepth 100000 in
theorem c_X5_now {l : Launch} {X : Gx} {M : MS} {q nu : Nat → Nat → Int32} {vc : Nat → Nat → Nat → Int32} {sb : Nat → Nat → Int32} {tp by_ : Nat → Int32} {sh : Nat → Nat → Int32} {nn : Nat → Nat → Int64} {fo : Nat → Int32} {kp : Int32} {n : Nat} (hN : q 0 1 = nI n) (h8 : n ≤ 8) (hnu : ∀ p, p < n → nu 0 p = nI p) (hok : ∀ p, p < n → okV (vc 0 p)) {w : Int32} : Ci l X yX5_now cX5_now 2 (some .int) (rmk 4 91) [.ref (ga X 0), .int w] (ch X M q nu vc sb tp by_ sh nn fo kp) (fun z g => z = ansI (S_now n (vc 0) (q 0 0) w) ∧ g = ch X M q nu vc sb tp by_ sh nn (fnF fo (S_now n (vc 0) (q 0 0) w)) kp) := by
  refine ct_i (own := RX5) (lv := [some (.ref (ga X 0)), some (.int w)]) (by decide) rfl (Nat.le_of_ble_eq_true rfl) (Nat.le_of_ble_eq_true rfl) rfl (fun C hC hR => ?_)
  refine v_iload_n hC rfl dX5_now_0 (q := 1) rfl ?_
  refine v_em 0 (fun hs1_0 => ?_) (fun hs1_0 => ?_)
  · refine v_tin hC dX5_now_1 (by decide) (by decide) rfl (t := 36) rfl ?_
    refine v_aload_n hC rfl dX5_now_36 (q := 37) rfl ?_
    refine v_get hC fl_X5_12 (k := 0) (by decide) ch_0 rfl dX5_now_37 (q := 40) rfl ?_
    refine v_getN hC nl_X5_128 (k := 1 + 11 * 0) (by decide) (ch_q (b := 0) (by decide)) rfl dX5_now_40 (q := 43) rfl ?_
    refine hR _ _ _ _ ?_ dX5_now_43
    (refine ⟨?_, ?_⟩ <;> (simp [S_now, ansI, fnF, *]; done))
  refine v_em 1 (fun hs1_1 => ?_) (fun hs1_1 => ?_)
  · refine v_tin hC dX5_now_1 (by decide) (by decide) rfl (t := 44) rfl ?_
    refine v_aload_n hC rfl dX5_now_44 (q := 45) rfl ?_
    refine v_get hC fl_X5_12 (k := 0) (by decide) ch_0 rfl dX5_now_45 (q := 48) rfl ?_
    refine v_Vi hC lkV_X5_135 (c_X1_grudges_C (b := 0) (by decide) hN h8) rfl (by decide) (k := 1 + 11 * 0) (by decide) (ch_q (b := 0) (by decide)) rfl rfl (Nat.le_of_ble_eq_true rfl) dX5_now_48 (q := 51) rfl ?_
    rintro _ _ ⟨rfl, rfl⟩
    refine hR _ _ _ _ ?_ dX5_now_51
    (refine ⟨?_, ?_⟩ <;> (simp [S_now, ansI, fnF, *]; done))
  refine v_em 2 (fun hs1_2 => ?_) (fun hs1_2 => ?_)
  · refine v_tin hC dX5_now_1 (by decide) (by decide) rfl (t := 52) rfl ?_
    refine v_aload_n hC rfl dX5_now_52 (q := 53) rfl ?_
    refine v_get hC fl_X5_12 (k := 0) (by decide) ch_0 rfl dX5_now_53 (q := 56) rfl ?_
    refine v_Vi hC lkV_X5_139 (c_X1_thoseWithoutGrudge_C (b := 0) (by decide) hN h8) rfl (by decide) (k := 1 + 11 * 0) (by decide) (ch_q (b := 0) (by decide)) rfl rfl (Nat.le_of_ble_eq_true rfl) dX5_now_56 (q := 59) rfl ?_
    rintro _ _ ⟨rfl, rfl⟩
    refine hR _ _ _ _ ?_ dX5_now_59
    (refine ⟨?_, ?_⟩ <;> (simp [S_now, ansI, fnF, *]; done))
  refine v_em 3 (fun hs1_3 => ?_) (fun hs1_3 => ?_)
  · refine v_tin hC dX5_now_1 (by decide) (by decide) rfl (t := 60) rfl ?_
    refine v_aload_n hC rfl dX5_now_60 (q := 61) rfl ?_
    refine v_get hC fl_X5_12 (k := 0) (by decide) ch_0 rfl dX5_now_61 (q := 64) rfl ?_
    refine v_Vi hC lkV_X5_142 (c_X1_thoseSeen_C (b := 0) (by decide) hN h8 hnu hok) rfl (by decide) (k := 1 + 11 * 0) (by decide) (ch_q (b := 0) (by decide)) rfl rfl (Nat.le_of_ble_eq_true rfl) dX5_now_64 (q := 67) rfl ?_
    rintro _ _ ⟨rfl, rfl⟩
    refine hR _ _ _ _ ?_ dX5_now_67
    (refine ⟨?_, ?_⟩ <;> (simp [S_now, ansI, fnF, *]; done))
  refine v_em 4 (fun hs1_4 => ?_) (fun hs1_4 => ?_)
  · refine v_tin hC dX5_now_1 (by decide) (by decide) rfl (t := 68) rfl ?_
    refine v_aload_n hC rfl dX5_now_68 (q := 69) rfl ?_
    refine v_get hC fl_X5_12 (k := 0) (by decide) ch_0 rfl dX5_now_69 (q := 72) rfl ?_
    refine v_Vi hC lkV_X5_145 (c_X1_thoseUp_C (b := 0) (by decide) hN h8 (fun p hp => (hok p hp).2.2.2.1)) rfl (by decide) (k := 1 + 11 * 0) (by decide) (ch_q (b := 0) (by decide)) rfl rfl (Nat.le_of_ble_eq_true rfl) dX5_now_72 (q := 75) rfl ?_
    rintro _ _ ⟨rfl, rfl⟩
    refine hR _ _ _ _ ?_ dX5_now_75
    (refine ⟨?_, ?_⟩ <;> (simp [S_now, ansI, fnF, *]; done))
  refine v_tout hC dX5_now_1 (sw_out_0_4 hs1_0 hs1_1 hs1_2 hs1_3 hs1_4) (t := 76) rfl ?_
  refine v_aload_n hC rfl dX5_now_76 (q := 77) rfl ?_
  refine v_ldc hC wk_X5_55 dX5_now_77 (q := 79) rfl ?_
  refine v_Vi hC lkV_X5_56 (c_X5_finding (n := 0) (by decide)) rfl (by decide) (k := 0) (by decide) ch_0 rfl rfl (Nat.le_of_ble_eq_true rfl) dX5_now_79 (q := 82) rfl ?_
  rintro _ _ ⟨rfl, rfl⟩
  refine hR _ _ _ _ ?_ dX5_now_82
  (refine ⟨?_, ?_⟩ <;> (simp [S_now, ansI, fnF, *]; done))

set_option maxHeartbeats 4000000 in
set_option maxRecDepth 100000 in
theorem c_X5_as {l : Launch} {X : Gx} {M : MS} {q nu : Nat → Nat → Int32} {vc : Nat → Nat → Nat → Int32} {sb : Nat → Nat → Int32} {tp by_ : Nat → Int32} {sh : Nat → Nat → Int32} {nn : Nat → Nat → Int64} {fo : Nat → Int32} {kp : Int32} {n : Nat} (hN : q 0 1 = nI n) (h8 : n ≤ 8) (hnu : ∀ p, p < n → nu 0 p = nI p) (hok : ∀ p, p < n → okV (vc 0 p)) {p kd : Int32} : Ci l X yX5_as cX5_as 4 (some .int) (rmk 2 43) [.ref (ga X 0), .int p, .int kd] (ch X M q nu vc sb tp by_ sh nn fo kp) (fun z g => z = ansI (S_as n (vc 0) p kd) ∧ g = ch X M q nu vc sb tp by_ sh nn (fnF fo (S_as n (vc 0) p kd)) kp) := by
  refine ct_i (own := RX5) (lv := [some (.ref (ga X 0)), some (.int p), some (.int kd), none]) (by decide) rfl (Nat.le_of_ble_eq_true rfl) (Nat.le_of_ble_eq_true rfl) rfl (fun C hC hR => ?_)
  have hix : ∀ P, P < n → pIx n (nI P) = some P := fun P h => pIx_nI h h8
  have hno : ∀ p, (¬ ∃ P, P < n ∧ p = nI P) → pIx n p = none := fun p h => pIx_no h8 h
  refine v_aload_n hC rfl dX5_as_0 (q := 1) rfl ?_
  refine v_iload_n hC rfl dX5_as_1 (q := 2) rfl ?_
  refine v_Vi hC lkV_X5_73 (c_X5_isThere hN h8) rfl (by decide) (k := 0) (by decide) ch_0 rfl rfl (Nat.le_of_ble_eq_true rfl) dX5_as_2 (q := 5) rfl ?_
  rintro _ _ ⟨⟨⟨P2, hP2, rfl⟩, rfl⟩ | ⟨hc2, rfl⟩, rfl⟩
  · refine v_if_eq hC dX5_as_5 (t := 15) rfl (q := 8) rfl (fun h => absurd h (by decide)) (fun _ => ?_)
    refine v_iload_n hC rfl dX5_as_8 (q := 9) rfl ?_
    refine v_Si hC lkS_X5_51 c_X5_isKind rfl (by decide) rfl (Nat.le_of_ble_eq_true rfl) dX5_as_9 (q := 12) rfl ?_
    rintro _ _ ⟨⟨hc9, rfl⟩ | ⟨hc9, rfl⟩, rfl⟩
    · refine v_if_ne hC dX5_as_12 (t := 22) rfl (q := 15) rfl (fun _ => ?_) (fun h => absurd h (by decide))
      refine v_aload_n hC rfl dX5_as_22 (q := 23) rfl ?_
      refine v_get hC fl_X5_12 (k := 0) (by decide) ch_0 rfl dX5_as_23 (q := 26) rfl ?_
      refine v_getN hC nl_X5_76 (k := 1 + 11 * 0) (by decide) (ch_q (b := 0) (by decide)) rfl dX5_as_26 (q := 29) rfl ?_
      refine v_iload_n hC rfl dX5_as_29 (q := 30) rfl ?_
      refine v_aald hC 2 (k := 2 + 11 * 0) (by decide) (ch_p (b := 0) (by decide)) rfl (ix8' (by omega)) (j := P2) (nI_clamp (by omega)) rfl dX5_as_30 (q := 31) rfl ?_
      refine v_astore_3 hC rfl dX5_as_31 (q := 32) rfl ?_
      refine v_aload_n hC rfl dX5_as_32 (q := 33) rfl ?_
      refine v_getN hC nl_X5_91 (k := 4 + 11 * 0 + P2) (by omega) (ch_o (b := 0) (k := P2) (by decide) (Or.inl (by omega))) rfl dX5_as_33 (q := 36) rfl ?_
      obtain ⟨K, _, hK, hk⟩ := w_of' (a := 0) (N := 5) (by decide) (by decide) (hok _ hP2).1.1 (hok _ hP2).1.2
      rw [hk]
      refine v_iload_n hC rfl dX5_as_36 (q := 37) rfl ?_
      refine v_Si hC lkS_X5_94 (c_X5_isOrIsUnder (K := K) (by omega)) rfl (by decide) rfl (Nat.le_of_ble_eq_true rfl) dX5_as_37 (q := 40) rfl ?_
      rintro _ _ ⟨⟨hc37, rfl⟩ | ⟨hc37, rfl⟩, rfl⟩
      · refine v_if_ne hC dX5_as_40 (t := 50) rfl (q := 43) rfl (fun _ => ?_) (fun h => absurd h (by decide))
        refine v_aload_n hC rfl dX5_as_50 (q := 51) rfl ?_
        refine v_getN hC nl_X5_98 (k := 4 + 11 * 0 + P2) (by omega) (ch_o (b := 0) (k := P2) (by decide) (Or.inl (by omega))) rfl dX5_as_51 (q := 54) rfl ?_
        refine hR _ _ _ _ ?_ dX5_as_54
        rw [← hk] at hc37
        (refine ⟨?_, ?_⟩ <;> (simp only [S_as, ansI, fnF, hix _ hP2, if_pos hc9, if_pos hc37]; done))
      · refine v_if_ne hC dX5_as_40 (t := 50) rfl (q := 43) rfl (fun h => absurd h (by decide)) (fun _ => ?_)
        refine v_aload_n hC rfl dX5_as_43 (q := 44) rfl ?_
        refine v_ldc hC wk_X5_97 dX5_as_44 (q := 46) rfl ?_
        refine v_Vi hC lkV_X5_56 (c_X5_finding (n := 2) (by decide)) rfl (by decide) (k := 0) (by decide) ch_0 rfl rfl (Nat.le_of_ble_eq_true rfl) dX5_as_46 (q := 49) rfl ?_
        rintro _ _ ⟨rfl, rfl⟩
        refine hR _ _ _ _ ?_ dX5_as_49
        rw [← hk] at hc37
        (refine ⟨?_, ?_⟩ <;> (simp only [S_as, ansI, fnF, hix _ hP2, if_pos hc9, if_neg hc37]; done))
    · refine v_if_ne hC dX5_as_12 (t := 22) rfl (q := 15) rfl (fun h => absurd h (by decide)) (fun _ => ?_)
      refine v_aload_n hC rfl dX5_as_15 (q := 16) rfl ?_
      refine v_ldc hC wk_X5_55 dX5_as_16 (q := 18) rfl ?_
      refine v_Vi hC lkV_X5_56 (c_X5_finding (n := 0) (by decide)) rfl (by decide) (k := 0) (by decide) ch_0 rfl rfl (Nat.le_of_ble_eq_true rfl) dX5_as_18 (q := 21) rfl ?_
      rintro _ _ ⟨rfl, rfl⟩
      refine hR _ _ _ _ ?_ dX5_as_21
      (refine ⟨?_, ?_⟩ <;> (simp only [S_as, ansI, fnF, hix _ hP2, if_neg hc9]; done))
  · refine v_if_eq hC dX5_as_5 (t := 15) rfl (q := 8) rfl (fun _ => ?_) (fun h => absurd h (by decide))
    refine v_aload_n hC rfl dX5_as_15 (q := 16) rfl ?_
    refine v_ldc hC wk_X5_55 dX5_as_16 (q := 18) rfl ?_
    refine v_Vi hC lkV_X5_56 (c_X5_finding (n := 0) (by decide)) rfl (by decide) (k := 0) (by decide) ch_0 rfl rfl (Nat.le_of_ble_eq_true rfl) dX5_as_18 (q := 21) rfl ?_
    rintro _ _ ⟨rfl, rfl⟩
    refine hR _ _ _ _ ?_ dX5_as_21
    (refine ⟨?_, ?_⟩ <;> (simp [S_as, ansI, fnF, hno _ hc2]; done))
