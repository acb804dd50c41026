theorem adT {x y : Int32} (hx : 0 ≤ x.toInt ∧ x.toInt ≤ 1000000) (hy : 0 ≤ y.toInt ∧ y.toInt ≤ 1000000) : (x + y).toInt = x.toInt + y.toInt := by
  rw [Int32.toInt_add]
  exact Int.bmod_eq_of_le (by omega) (by omega)
theorem hf_b : ∀ W : Fin 100, 0 ≤ (nI W.val / 2).toInt ∧ (nI W.val / 2).toInt ≤ 99 := by decide +kernel
theorem pl_b {v : Nat → Int32} (hv : okV v) (o : Int32) : 0 ≤ (plainF v o).toInt ∧ (plainF v o).toInt ≤ 99 := by
  unfold plainF
  split
  · unfold held
    split
    · decide
    · split
      · decide
      · rename_i h1 h2
        rw [fa_lt] at h1 h2
        have e1 : (0 : Int32).toInt = 0 := rfl
        have e2 : (99 : Int32).toInt = 99 := rfl
        omega
  · obtain ⟨W, -, hW, hw⟩ := w_of' (a := 0) (N := 99) (by decide) (by decide) hv.2.2.2.2.2.2.1 hv.2.2.2.2.2.2.2
    rw [hw]
    exact hf_b ⟨W, by omega⟩
theorem five_b (c : Prop) [Decidable c] : 0 ≤ (if c then (5 : Int32) else 0).toInt ∧ (if c then (5 : Int32) else 0).toInt ≤ 5 := by
  split <;> decide
theorem bro_b {v : Nat → Int32} (hv : okV v) (k o : Int32) : 0 ≤ (broF k v o).toInt ∧ (broF k v o).toInt ≤ 104 := by
  unfold broF
  have h1 := pl_b hv o
  have h2 := five_b (o = k + 1)
  rw [adT (by omega) (by omega)]
  omega
theorem two_mul' (x : Int32) : 2 * x = x + x := by
  rw [show (2 : Int32) = 1 + 1 from rfl, Int32.add_mul, Int32.one_mul]
theorem bri_b {v : Nat → Int32} (hv : okV v) (k o : Int32) : 0 ≤ (briF k v o).toInt ∧ (briF k v o).toInt ≤ 198 := by
  unfold briF
  have h1 := pl_b hv o
  split
  · rw [two_mul', adT (by omega) (by omega)]
    omega
  · omega
theorem look_b {v : Nat → Int32} (hv : okV v) (k o : Int32) : 0 ≤ (lookF k v o).toInt ∧ (lookF k v o).toInt ≤ 200 := by
  have h1 := pl_b hv o
  have h2 := bro_b hv k o
  have h3 := bri_b hv k o
  have h4 := five_b (k = o + 1)
  unfold lookF
  split
  · decide
  split
  · omega
  split
  · omega
  split
  · decide
  split
  · rw [adT (by omega) (by omega)]; omega
  split
  · split
    · decide
    · omega
  · omega
theorem all_b {v : Nat → Int32} (hv : okV v) (k : Int32) : ∀ n, n ≤ 8 → 0 ≤ (allF k v n).toInt ∧ (allF k v n).toInt ≤ 200 * n
  | 0, _ => ⟨Int.le_refl _, Int.le_refl _⟩
  | n + 1, h => by
    have h1 := all_b hv k n (by omega)
    have h2 := look_b hv k (nI n)
    have h3 : 0 ≤ (if nI n = k then 0 else lookF k v (nI n)).toInt ∧ (if nI n = k then 0 else lookF k v (nI n)).toInt ≤ 200 := by
      split
      · decide
      · exact h2
    rw [allF, adT (by omega) (by omega)]
    omega
theorem sha_some {e : Nat → Int32} (h : 0 ≤ (e 0).toInt) : ∀ n, ∃ j, (shaF e (n + 1)).2 = some j
  | 0 => by
    rw [shaF, if_pos (by rw [shaF, fa_lt]; exact Int.lt_of_lt_of_le (by decide) h)]
    exact ⟨0, rfl⟩
  | n + 1 => by
    rw [shaF]
    split
    · exact ⟨_, rfl⟩
    · exact sha_some h n
theorem sha_congr {e e' : Nat → Int32} : ∀ n, (∀ p, p < n → e p = e' p) → shaF e n = shaF e' n
  | 0, _ => rfl
  | n + 1, h => by rw [shaF, shaF, sha_congr n (fun p hp => h p (by omega)), h n (by omega)]
theorem mix_lt {α : Type} {n : Nat} {a b : Nat → α} {k : Nat} (h : k < n) : mixN n a b k = a k := by rw [mixN, if_pos h]
set_option maxHeartbeats 4000000 in
set_option maxRecDepth 100000 in
theorem c_X5_sharpest {l : Launch} {X : Gx} {M : MS} {q nu : Nat → Nat → Int32} {vc : Nat → Nat → Nat → Int32} {sb : Nat → Nat → Int32} {tp by_ : Nat → Int32} {sh : Nat → Nat → Int32} {nn : Nat → Nat → Int64} {fo : Nat → Int32} {kp : Int32} {n : Nat} (hN : q 0 1 = nI n) (h8 : n ≤ 8) (hnu : ∀ p, p < n → nu 0 p = nI p) (hok : ∀ p, p < n → okV (vc 0 p)) {k : Int32} : Ci l X yX5_sharpest cX5_sharpest 2 (some .int) (rmk 5 110) [.ref (ga X 0), .int k] (ch X M q nu vc sb tp by_ sh nn fo kp) (fun z g => z = ansI (S_sharpest n (vc 0) k) ∧ ∃ q2 n2 v2 sb2, g = ch X M (va_up q 2 q2) (va_up nu 2 n2) (va_up vc 2 v2) sb2 tp by_ sh nn (fnF fo (S_sharpest n (vc 0) k)) kp) := by
  refine ct_i (own := RX5) (lv := [some (.ref (ga X 0)), some (.int k)]) (by decide) rfl (Nat.le_of_ble_eq_true rfl) (Nat.le_of_ble_eq_true rfl) rfl (fun C hC hR => ?_)
  refine v_iload_n hC rfl dX5_sharpest_0 (q := 1) rfl ?_
  refine v_bipush hC (v := 100) rfl dX5_sharpest_1 (q := 3) rfl ?_
  refine v_Si hC lkS_X5_121 c_X5_isUpTo rfl (by decide) rfl (Nat.le_of_ble_eq_true rfl) dX5_sharpest_3 (q := 6) rfl ?_
  rintro _ _ ⟨⟨hc3, rfl⟩ | ⟨hc3, rfl⟩, rfl⟩
  · refine v_if_ne hC dX5_sharpest_6 (t := 16) rfl (q := 9) rfl (fun _ => ?_) (fun h => absurd h (by decide))
    refine v_aload_n hC rfl dX5_sharpest_16 (q := 17) rfl ?_
    refine v_get hC fl_X5_12 (k := 0) (by decide) ch_0 rfl dX5_sharpest_17 (q := 20) rfl ?_
    refine v_getN hC nl_X5_173 (k := 1 + 11 * 0) (by decide) (ch_q (b := 0) (by decide)) rfl dX5_sharpest_20 (q := 23) rfl ?_
    refine v_if_ne hC dX5_sharpest_23 (t := 33) rfl (q := 26) rfl (fun h23 => ?_) (fun h23 => ?_)
    · obtain ⟨K, -, hK, rfl⟩ := w_of' (a := 0) (N := 100) (by decide) (by decide) hc3.1 hc3.2
      have hcl : (nI K).toNatClampNeg = K := nI_clamp (by omega)
      have hn0 : n ≠ 0 := fun z => h23 (by rw [hN, z]; rfl)
      refine v_aload_n hC rfl dX5_sharpest_33 (q := 34) rfl ?_
      refine v_get hC fl_X5_19 (k := 0) (by decide) ch_0 rfl dX5_sharpest_34 (q := 37) rfl ?_
      refine v_aload_n hC rfl dX5_sharpest_37 (q := 38) rfl ?_
      refine v_get hC fl_X5_12 (k := 0) (by decide) ch_0 rfl dX5_sharpest_38 (q := 41) rfl ?_
      refine v_Vv hC lkV_X5_165 (c_X1_become_C (b := 2) (by decide) (b2 := 0) (by decide) (by decide) hN h8) rfl (by decide) (k := 1 + 11 * 2) (by decide) (ch_q (b := 2) (by decide)) rfl rfl (Nat.le_of_ble_eq_true rfl) dX5_sharpest_41 (q := 44) rfl ?_
      rintro _ rfl
      refine v_aload_n hC rfl dX5_sharpest_44 (q := 45) rfl ?_
      refine v_get hC fl_X5_19 (k := 0) (by decide) ch_0 rfl dX5_sharpest_45 (q := 48) rfl ?_
      refine v_iload_n hC rfl dX5_sharpest_48 (q := 49) rfl ?_
      refine v_Vv hC lkV_X5_131 (c_X1_letDaysGo_C (b := 2) (by decide) (show va_up q 2 (upd (upd (q 2) 0 (q 0 0)) 1 (q 0 1)) 2 1 = nI n by rw [va_up_self]; simp only [upd, if_true]; exact hN) h8 (show ∀ p, p < n → va_up nu 2 (mixN n (nu 0) (nu 2)) 2 p = nI p from fun p hp => by rw [va_up_self, mix_lt hp]; exact hnu p hp) (show ∀ p, p < n → okV (va_up vc 2 (mixN n (vc 0) (vc 2)) 2 p) from fun p hp => by rw [va_up_self, mix_lt hp]; exact hok p hp) (k := K) (by omega)) rfl (by decide) (k := 1 + 11 * 2) (by decide) (ch_q (b := 2) (by decide)) rfl rfl (Nat.le_of_ble_eq_true rfl) dX5_sharpest_49 (q := 52) rfl ?_
      rintro _ rfl
      refine v_aload_n hC rfl dX5_sharpest_52 (q := 53) rfl ?_
      refine v_get hC fl_X5_19 (k := 0) (by decide) ch_0 rfl dX5_sharpest_53 (q := 56) rfl ?_
      refine v_Vi hC lkV_X5_177 (c_X1_sharpestOfAll_C (b := 2) (by decide) (n := n) (by rw [va_up_self]; simp only [upd, va_up_self]; exact hN) h8 (show ∀ p, p < n → va_up nu 2 (mixN n (nu 0) (nu 2)) 2 p = nI p from fun p hp => by rw [va_up_self, mix_lt hp]; exact hnu p hp) (fun p hp => by rw [va_up_self]; exact dyV_ok (show ∀ p, p < n → okV (va_up vc 2 (mixN n (vc 0) (vc 2)) 2 p) from fun p hp => by rw [va_up_self, mix_lt hp]; exact hok p hp) hp)) rfl (by decide) (k := 1 + 11 * 2) (by decide) (ch_q (b := 2) (by decide)) rfl rfl (Nat.le_of_ble_eq_true rfl) dX5_sharpest_56 (q := 59) rfl ?_
      rintro _ _ ⟨rfl, rfl⟩
      refine hR _ _ _ _ ?_ dX5_sharpest_59
      obtain ⟨n', rfl⟩ : ∃ n', n = n' + 1 := ⟨n - 1, by omega⟩
      have hS : S_sharpest (n' + 1) (vc 0) (nI K) = orN (shaF (fun p => allF (nI p) (itD (nI p) (vc 0 p) K) (n' + 1)) (n' + 1)).2 := by simp only [S_sharpest, if_pos hc3, hcl]
      obtain ⟨x, hx⟩ := sha_some (e := fun p => allF (nI p) (itD (nI p) (vc 0 p) K) (n' + 1)) (all_b (okV_it (hok 0 (by omega)) K) _ (n' + 1) (by omega)).1 n'
      rw [hS, hx]
      refine ⟨?_, ?_⟩
      rotate_left
      · simp only [orN, fnF, up_up]
        exact ⟨_, _, _, _, rfl⟩
      · rw [sha_congr (e' := fun p => allF (nI p) (itD (nI p) (vc 0 p) K) (n' + 1)) (n' + 1) (fun p hp => by rw [va_up_self, dyV_it hp, va_up_self, mix_lt hp]), hx]
        rfl
    · refine v_aload_n hC rfl dX5_sharpest_26 (q := 27) rfl ?_
      refine v_ldc hC wk_X5_176 dX5_sharpest_27 (q := 29) rfl ?_
      refine v_Vi hC lkV_X5_56 (c_X5_finding (n := 3) (by decide)) rfl (by decide) (k := 0) (by decide) ch_0 rfl rfl (Nat.le_of_ble_eq_true rfl) dX5_sharpest_29 (q := 32) rfl ?_
      rintro _ _ ⟨rfl, rfl⟩
      refine hR _ _ _ _ ?_ dX5_sharpest_32
      have hn0 : n = 0 := (nI_eq (a := n) (b := 0) (by omega) (by decide)).mp (hN.symm.trans h23)
      subst hn0
      refine ⟨?_, q 2, nu 2, vc 2, sb, ?_⟩
      · simp only [S_sharpest, ansI, fnF, if_pos hc3, shaF, orN]
      · rw [up_id, up_id, up_id]
        simp only [S_sharpest, ansI, fnF, if_pos hc3, shaF, orN]
  · refine v_if_ne hC dX5_sharpest_6 (t := 16) rfl (q := 9) rfl (fun h => absurd h (by decide)) (fun _ => ?_)
    refine v_aload_n hC rfl dX5_sharpest_9 (q := 10) rfl ?_
    refine v_ldc hC wk_X5_55 dX5_sharpest_10 (q := 12) rfl ?_
    refine v_Vi hC lkV_X5_56 (c_X5_finding (n := 0) (by decide)) rfl (by decide) (k := 0) (by decide) ch_0 rfl rfl (Nat.le_of_ble_eq_true rfl) dX5_sharpest_12 (q := 15) rfl ?_
    rintro _ _ ⟨rfl, rfl⟩
    refine hR _ _ _ _ ?_ dX5_sharpest_15
    refine ⟨?_, q 2, nu 2, vc 2, sb, ?_⟩
    · simp only [S_sharpest, ansI, fnF, if_neg hc3]
    · rw [up_id, up_id, up_id]
      simp only [S_sharpest, ansI, fnF, if_neg hc3]

theorem c_X5_daysTillUnseen_C {l : Launch} {X : Gx} {M : MS} {q nu : Nat → Nat → Int32} {vc : Nat → Nat → Nat → Int32} {sb : Nat → Nat → Int32} {tp by_ : Nat → Int32} {sh : Nat → Nat → Int32} {nn : Nat → Nat → Int64} {fo : Nat → Int32} {kp : Int32} {b : Nat} (hb : b < 3) {n : Nat} (hN : q b 1 = nI n) (h8 : n ≤ 8) (hnu : ∀ p, p < n → nu b p = nI p) (hok : ∀ p, p < n → okV (vc b p)) {P : Nat} (hP : P < n) : Ci l X yX5_daysTillUnseen cX5_daysTillUnseen 3 (some .int) (rmk 5 110) [.ref (ga X (1 + 11 * b)), .int (nI P)] (ch X M q nu vc sb tp by_ sh nn fo kp) (fun z g => z = nI ((uns n (vc b) P).getD 201) ∧ ∃ d2 v2, g = ch X M (va_up q b (upd (upd (q b) 0 d2) 1 (q b 1))) nu (va_up vc b (mixN 8 v2 (vc b))) sb tp by_ sh nn fo kp) := by
  have h := c_X5_daysTillUnseen (l := l) (X := X) (f := ch X M q nu vc sb tp by_ sh nn fo kp) hb (d := q b 0) (cc_ := q b 1) (s := sb b) (nu := nu b) (vv := vc b) hN h8 hnu hok hP
  rw [← ch_qH hb] at h
  simp only [qH_ch hb, mix8_id, up_id] at h
  exact h
theorem uns_congr {n : Nat} {g g' : Nat → Nat → Int32} {P : Nat} (h : ∀ p, p < n → g p = g' p) : uns n g P = uns n g' P := by
  rw [uns_eq, uns_eq]
  congr 1
  funext j
  rw [unsB, unsB, seenF_congr n (fun p hp => by rw [h p hp])]
set_option maxHeartbeats 4000000 in
set_option maxRecDepth 100000 in
theorem c_X5_unseen {l : Launch} {X : Gx} {M : MS} {q nu : Nat → Nat → Int32} {vc : Nat → Nat → Nat → Int32} {sb : Nat → Nat → Int32} {tp by_ : Nat → Int32} {sh : Nat → Nat → Int32} {nn : Nat → Nat → Int64} {fo : Nat → Int32} {kp : Int32} {n : Nat} (hN : q 0 1 = nI n) (h8 : n ≤ 8) (hnu : ∀ p, p < n → nu 0 p = nI p) (hok : ∀ p, p < n → okV (vc 0 p)) {p : Int32} : Ci l X yX5_unseen cX5_unseen 2 (some .int) (rmk 6 132) [.ref (ga X 0), .int p] (ch X M q nu vc sb tp by_ sh nn fo kp) (fun z g => z = ansI (S_unseen n (vc 0) p) ∧ ∃ q2 n2 v2 sb2, g = ch X M (va_up q 2 q2) (va_up nu 2 n2) (va_up vc 2 v2) sb2 tp by_ sh nn (fnF fo (S_unseen n (vc 0) p)) kp) := by
  refine ct_i (own := RX5) (lv := [some (.ref (ga X 0)), some (.int p)]) (by decide) rfl (Nat.le_of_ble_eq_true rfl) (Nat.le_of_ble_eq_true rfl) rfl (fun C hC hR => ?_)
  have hix : ∀ P, P < n → pIx n (nI P) = some P := fun P h => pIx_nI h h8
  have hno : ∀ p, (¬ ∃ P, P < n ∧ p = nI P) → pIx n p = none := fun p h => pIx_no h8 h
  refine v_aload_n hC rfl dX5_unseen_0 (q := 1) rfl ?_
  refine v_iload_n hC rfl dX5_unseen_1 (q := 2) rfl ?_
  refine v_Vi hC lkV_X5_73 (c_X5_isThere hN h8) rfl (by decide) (k := 0) (by decide) ch_0 rfl rfl (Nat.le_of_ble_eq_true rfl) dX5_unseen_2 (q := 5) rfl ?_
  rintro _ _ ⟨⟨⟨P2, hP2, rfl⟩, rfl⟩ | ⟨hc2, rfl⟩, rfl⟩
  · refine v_if_ne hC dX5_unseen_5 (t := 15) rfl (q := 8) rfl (fun _ => ?_) (fun h => absurd h (by decide))
    refine v_aload_n hC rfl dX5_unseen_15 (q := 16) rfl ?_
    refine v_get hC fl_X5_19 (k := 0) (by decide) ch_0 rfl dX5_unseen_16 (q := 19) rfl ?_
    refine v_aload_n hC rfl dX5_unseen_19 (q := 20) rfl ?_
    refine v_get hC fl_X5_12 (k := 0) (by decide) ch_0 rfl dX5_unseen_20 (q := 23) rfl ?_
    refine v_Vv hC lkV_X5_165 (c_X1_become_C (b := 2) (by decide) (b2 := 0) (by decide) (by decide) hN h8) rfl (by decide) (k := 1 + 11 * 2) (by decide) (ch_q (b := 2) (by decide)) rfl rfl (Nat.le_of_ble_eq_true rfl) dX5_unseen_23 (q := 26) rfl ?_
    rintro _ rfl
    refine v_aload_n hC rfl dX5_unseen_26 (q := 27) rfl ?_
    refine v_aload_n hC rfl dX5_unseen_27 (q := 28) rfl ?_
    refine v_get hC fl_X5_19 (k := 0) (by decide) ch_0 rfl dX5_unseen_28 (q := 31) rfl ?_
    refine v_iload_n hC rfl dX5_unseen_31 (q := 32) rfl ?_
    refine v_Si hC lkS_X5_169 (c_X5_daysTillUnseen_C (b := 2) (by decide) (show va_up q 2 (upd (upd (q 2) 0 (q 0 0)) 1 (q 0 1)) 2 1 = nI n by rw [va_up_self]; simp only [upd, if_true]; exact hN) h8 (show ∀ p, p < n → va_up nu 2 (mixN n (nu 0) (nu 2)) 2 p = nI p from fun p hp => by rw [va_up_self, mix_lt hp]; exact hnu p hp) (show ∀ p, p < n → okV (va_up vc 2 (mixN n (vc 0) (vc 2)) 2 p) from fun p hp => by rw [va_up_self, mix_lt hp]; exact hok p hp) hP2) rfl (by decide) rfl (Nat.le_of_ble_eq_true rfl) dX5_unseen_32 (q := 35) rfl ?_
    rintro _ _ ⟨rfl, d32, v32, rfl⟩
    rw [uns_congr (g' := vc 0) (fun p hp => by rw [va_up_self, mix_lt hp])]
    refine v_Vi hC lkV_X5_159 (c_X5_daysOrNone (fun j hj => by have := fstN_lt _ _ _ ((uns_eq _ _ _).symm.trans hj); omega)) rfl (by decide) (k := 0) (by decide) ch_0 rfl rfl (Nat.le_of_ble_eq_true rfl) dX5_unseen_35 (q := 38) rfl ?_
    rintro _ _ ⟨rfl, rfl⟩
    refine hR _ _ _ _ ?_ dX5_unseen_38
    refine ⟨by simp only [S_unseen, hix _ hP2], ?_⟩
    simp only [S_unseen, hix _ hP2, up_up]
    exact ⟨_, _, _, _, rfl⟩
  · refine v_if_ne hC dX5_unseen_5 (t := 15) rfl (q := 8) rfl (fun h => absurd h (by decide)) (fun _ => ?_)
    refine v_aload_n hC rfl dX5_unseen_8 (q := 9) rfl ?_
    refine v_ldc hC wk_X5_55 dX5_unseen_9 (q := 11) rfl ?_
    refine v_Vi hC lkV_X5_56 (c_X5_finding (n := 0) (by decide)) rfl (by decide) (k := 0) (by decide) ch_0 rfl rfl (Nat.le_of_ble_eq_true rfl) dX5_unseen_11 (q := 14) rfl ?_
    rintro _ _ ⟨rfl, rfl⟩
    refine hR _ _ _ _ ?_ dX5_unseen_14
    refine ⟨?_, q 2, nu 2, vc 2, sb, ?_⟩
    · simp only [S_unseen, ansI, fnF, hno _ hc2]
    · rw [up_id, up_id, up_id]
      simp only [S_unseen, ansI, fnF, hno _ hc2]
