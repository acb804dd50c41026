def V_set (n : Nat) (vv : Nat → Nat → Int32) (p w v : Int32) : Nat → Nat → Int32 := match pIx n p with
  | none => vv
  | some P => if (1 ≤ w ∧ w ≤ 6) ∧ (if w = 2 ∨ w = 4 then -1 ≤ v ∧ v ≤ nI n - 1 else if w = 3 then 0 ≤ v ∧ v ≤ 1 else 0 ≤ v ∧ v ≤ 99) then va_up vv P (upd (vv P) w.toNatClampNeg v) else vv
def V_turn (n : Nat) (vv : Nat → Nat → Int32) (p kd : Int32) : Nat → Nat → Int32 := match pIx n p with
  | none => vv
  | some P => if 0 ≤ kd ∧ kd ≤ 5 then va_up vv P (upd (vv P) 0 kd) else vv
def V_grind (n : Nat) (vv : Nat → Nat → Int32) (p : Int32) : Nat → Nat → Int32 := match pIx n p with
  | none => vv
  | some P => if vv P 2 < 0 then vv else va_up vv P (grdV (vv P))
def V_lend (n : Nat) (vv : Nat → Nat → Int32) (p q : Int32) : Nat → Nat → Int32 := match pTw n p q with
  | none => vv
  | some (P, Q) => va_up (va_up vv P (vsw (vv P) (vv Q))) Q (vsw (vv Q) (vv P))
theorem up_same {nu : Nat → Nat → Int32} {b k : Nat} {x : Int32} (h : x = nu b k) : va_up nu b (upd (nu b) k x) = nu := by rw [upd_id h, up_id]
section CO
variable {X : Gx} {M : MS} {q nu : Nat → Nat → Int32} {vc : Nat → Nat → Nat → Int32} {sb : Nat → Nat → Int32} {tp by_ : Nat → Int32} {sh : Nat → Nat → Int32} {nn : Nat → Nat → Int64} {fo : Nat → Int32} {kp : Int32}
theorem ch_of0 {b k : Nat} (hb : b < 3) (hk : k < 8 ∨ (b = 2 ∧ k = 8)) (x : Int32) : va_up (ch X M q nu vc sb tp by_ sh nn fo kp) (4 + 11 * b + k) (.inr (0, ([.int (nu b k), .int (vc b k 0), .int (vc b k 1), .int (vc b k 2), .int (vc b k 3), .int (vc b k 4), .int (vc b k 5), .int (vc b k 6)] : List Value).set 1 (.int x))) = ch X M q nu (va_up vc b (va_up (vc b) k (upd (vc b k) 0 x))) sb tp by_ sh nn fo kp := (ch_set (x := nu b k) (w := upd (vc b k) 0 x) hb hk).trans (by rw [up_same rfl])
theorem ch_of1 {b k : Nat} (hb : b < 3) (hk : k < 8 ∨ (b = 2 ∧ k = 8)) (x : Int32) : va_up (ch X M q nu vc sb tp by_ sh nn fo kp) (4 + 11 * b + k) (.inr (0, ([.int (nu b k), .int (vc b k 0), .int (vc b k 1), .int (vc b k 2), .int (vc b k 3), .int (vc b k 4), .int (vc b k 5), .int (vc b k 6)] : List Value).set 2 (.int x))) = ch X M q nu (va_up vc b (va_up (vc b) k (upd (vc b k) 1 x))) sb tp by_ sh nn fo kp := (ch_set (x := nu b k) (w := upd (vc b k) 1 x) hb hk).trans (by rw [up_same rfl])
theorem ch_of2 {b k : Nat} (hb : b < 3) (hk : k < 8 ∨ (b = 2 ∧ k = 8)) (x : Int32) : va_up (ch X M q nu vc sb tp by_ sh nn fo kp) (4 + 11 * b + k) (.inr (0, ([.int (nu b k), .int (vc b k 0), .int (vc b k 1), .int (vc b k 2), .int (vc b k 3), .int (vc b k 4), .int (vc b k 5), .int (vc b k 6)] : List Value).set 3 (.int x))) = ch X M q nu (va_up vc b (va_up (vc b) k (upd (vc b k) 2 x))) sb tp by_ sh nn fo kp := (ch_set (x := nu b k) (w := upd (vc b k) 2 x) hb hk).trans (by rw [up_same rfl])
theorem ch_of3 {b k : Nat} (hb : b < 3) (hk : k < 8 ∨ (b = 2 ∧ k = 8)) (x : Int32) : va_up (ch X M q nu vc sb tp by_ sh nn fo kp) (4 + 11 * b + k) (.inr (0, ([.int (nu b k), .int (vc b k 0), .int (vc b k 1), .int (vc b k 2), .int (vc b k 3), .int (vc b k 4), .int (vc b k 5), .int (vc b k 6)] : List Value).set 4 (.int x))) = ch X M q nu (va_up vc b (va_up (vc b) k (upd (vc b k) 3 x))) sb tp by_ sh nn fo kp := (ch_set (x := nu b k) (w := upd (vc b k) 3 x) hb hk).trans (by rw [up_same rfl])
theorem ch_of4 {b k : Nat} (hb : b < 3) (hk : k < 8 ∨ (b = 2 ∧ k = 8)) (x : Int32) : va_up (ch X M q nu vc sb tp by_ sh nn fo kp) (4 + 11 * b + k) (.inr (0, ([.int (nu b k), .int (vc b k 0), .int (vc b k 1), .int (vc b k 2), .int (vc b k 3), .int (vc b k 4), .int (vc b k 5), .int (vc b k 6)] : List Value).set 5 (.int x))) = ch X M q nu (va_up vc b (va_up (vc b) k (upd (vc b k) 4 x))) sb tp by_ sh nn fo kp := (ch_set (x := nu b k) (w := upd (vc b k) 4 x) hb hk).trans (by rw [up_same rfl])
theorem ch_of5 {b k : Nat} (hb : b < 3) (hk : k < 8 ∨ (b = 2 ∧ k = 8)) (x : Int32) : va_up (ch X M q nu vc sb tp by_ sh nn fo kp) (4 + 11 * b + k) (.inr (0, ([.int (nu b k), .int (vc b k 0), .int (vc b k 1), .int (vc b k 2), .int (vc b k 3), .int (vc b k 4), .int (vc b k 5), .int (vc b k 6)] : List Value).set 6 (.int x))) = ch X M q nu (va_up vc b (va_up (vc b) k (upd (vc b k) 5 x))) sb tp by_ sh nn fo kp := (ch_set (x := nu b k) (w := upd (vc b k) 5 x) hb hk).trans (by rw [up_same rfl])
theorem ch_of6 {b k : Nat} (hb : b < 3) (hk : k < 8 ∨ (b = 2 ∧ k = 8)) (x : Int32) : va_up (ch X M q nu vc sb tp by_ sh nn fo kp) (4 + 11 * b + k) (.inr (0, ([.int (nu b k), .int (vc b k 0), .int (vc b k 1), .int (vc b k 2), .int (vc b k 3), .int (vc b k 4), .int (vc b k 5), .int (vc b k 6)] : List Value).set 7 (.int x))) = ch X M q nu (va_up vc b (va_up (vc b) k (upd (vc b k) 6 x))) sb tp by_ sh nn fo kp := (ch_set (x := nu b k) (w := upd (vc b k) 6 x) hb hk).trans (by rw [up_same rfl])
end CO
set_option maxHeartbeats 4000000 in
set_option maxRecDepth 100000 in
theorem c_X5_person {l : Launch} {X : Gx} {M : MS} {q nu : Nat → Nat → Int32} {vc : Nat → Nat → Nat → Int32} {sb : Nat → Nat → Int32} {tp by_ : Nat → Int32} {sh : Nat → Nat → Int32} {nn : Nat → Nat → Int64} {fo : Nat → Int32} {kp : Int32} {n : Nat} (hN : q 0 1 = nI n) (h8 : n ≤ 8) (hnu : ∀ p, p < n → nu 0 p = nI p) (hok : ∀ p, p < n → okV (vc 0 p)) {kd : Int32} : Ci l X yX5_person cX5_person 2 (some .int) (rmk 2 44) [.ref (ga X 0), .int kd] (ch X M q nu vc sb tp by_ sh nn fo kp) (fun z g => z = ansI (S_person n kd) ∧ g = if 0 ≤ kd ∧ kd ≤ 5 ∧ n < 8 then ch X M (va_up q 0 (upd (q 0) 1 (nI n + 1))) (va_up nu 0 (upd (nu 0) n (nI n))) (va_up vc 0 (va_up (vc 0) n (newV kd 20 (-1)))) sb tp by_ sh nn fo kp else ch X M q nu vc sb tp by_ sh nn (fnF fo (S_person n kd)) kp) := by
  refine ct_i (own := RX5) (lv := [some (.ref (ga X 0)), some (.int kd)]) (by decide) rfl (Nat.le_of_ble_eq_true rfl) (Nat.le_of_ble_eq_true rfl) rfl (fun C hC hR => ?_)
  refine v_iload_n hC rfl dX5_person_0 (q := 1) rfl ?_
  refine v_Si hC lkS_X5_51 c_X5_isKind rfl (by decide) rfl (Nat.le_of_ble_eq_true rfl) dX5_person_1 (q := 4) rfl ?_
  rintro _ _ ⟨⟨hc1, rfl⟩ | ⟨hc1, rfl⟩, rfl⟩
  · refine v_if_ne hC dX5_person_4 (t := 14) rfl (q := 7) rfl (fun _ => ?_) (fun h => absurd h (by decide))
    refine v_aload_n hC rfl dX5_person_14 (q := 15) rfl ?_
    refine v_get hC fl_X5_12 (k := 0) (by decide) ch_0 rfl dX5_person_15 (q := 18) rfl ?_
    refine v_Vi hC lkV_X5_60 (c_X1_isFull_C (b := 0) (by decide) hN h8) rfl (by decide) (k := 1 + 11 * 0) (by decide) (ch_q (b := 0) (by decide)) rfl rfl (Nat.le_of_ble_eq_true rfl) dX5_person_18 (q := 21) rfl ?_
    rintro _ _ ⟨⟨hc18, rfl⟩ | ⟨hc18, rfl⟩, rfl⟩
    · refine v_if_eq hC dX5_person_21 (t := 31) rfl (q := 24) rfl (fun h => absurd h (by decide)) (fun _ => ?_)
      refine v_aload_n hC rfl dX5_person_24 (q := 25) rfl ?_
      refine v_ldc hC wk_X5_64 dX5_person_25 (q := 27) rfl ?_
      refine v_Vi hC lkV_X5_56 (c_X5_finding (n := 1) (by decide)) rfl (by decide) (k := 0) (by decide) ch_0 rfl rfl (Nat.le_of_ble_eq_true rfl) dX5_person_27 (q := 30) rfl ?_
      rintro _ _ ⟨rfl, rfl⟩
      refine hR _ _ _ _ ?_ dX5_person_30
      exact ⟨by simp only [S_person, if_pos hc1, if_pos hc18, ansI], by rw [if_neg (fun z => by omega)]; simp only [S_person, if_pos hc1, if_pos hc18, fnF]⟩
    · refine v_if_eq hC dX5_person_21 (t := 31) rfl (q := 24) rfl (fun _ => ?_) (fun h => absurd h (by decide))
      refine v_aload_n hC rfl dX5_person_31 (q := 32) rfl ?_
      refine v_get hC fl_X5_12 (k := 0) (by decide) ch_0 rfl dX5_person_32 (q := 35) rfl ?_
      refine v_iload_n hC rfl dX5_person_35 (q := 36) rfl ?_
      refine v_Vr hC lkV_X5_65 (c_X1_welcome_C (b := 0) (by decide) hN (by omega)) rfl (by decide) (k := 1 + 11 * 0) (by decide) (ch_q (b := 0) (by decide)) rfl rfl (Nat.le_of_ble_eq_true rfl) dX5_person_36 (q := 39) rfl ?_
      rintro _ _ ⟨rfl, rfl⟩
      refine v_getN hC nl_X5_69 (k := 4 + 11 * 0 + n) (by omega) (ch_o (b := 0) (k := n) (by decide) (Or.inl (by omega))) rfl dX5_person_39 (q := 42) rfl ?_
      rw [va_up_self, show upd (nu 0) n (nI n) n = nI n by simp [upd]]
      refine hR _ _ _ _ ?_ dX5_person_42
      exact ⟨by simp only [S_person, if_pos hc1, if_neg hc18, ansI], by rw [if_pos ⟨hc1.1, hc1.2, by omega⟩]⟩
  · refine v_if_ne hC dX5_person_4 (t := 14) rfl (q := 7) rfl (fun h => absurd h (by decide)) (fun _ => ?_)
    refine v_aload_n hC rfl dX5_person_7 (q := 8) rfl ?_
    refine v_ldc hC wk_X5_55 dX5_person_8 (q := 10) rfl ?_
    refine v_Vi hC lkV_X5_56 (c_X5_finding (n := 0) (by decide)) rfl (by decide) (k := 0) (by decide) ch_0 rfl rfl (Nat.le_of_ble_eq_true rfl) dX5_person_10 (q := 13) rfl ?_
    rintro _ _ ⟨rfl, rfl⟩
    refine hR _ _ _ _ ?_ dX5_person_13
    exact ⟨by simp only [S_person, if_neg hc1, ansI], by rw [if_neg (fun z => hc1 ⟨z.1, z.2.1⟩)]; simp only [S_person, if_neg hc1, fnF]⟩

set_option maxHeartbeats 4000000 in
set_option maxRecDepth 100000 in
theorem c_X5_set {l : Launch} {X : Gx} {M : MS} {q nu : Nat → Nat → Int32} {vc : Nat → Nat → Nat → Int32} {sb : Nat → Nat → Int32} {tp by_ : Nat → Int32} {sh : Nat → Nat → Int32} {nn : Nat → Nat → Int64} {fo : Nat → Int32} {kp : Int32} {n : Nat} (hN : q 0 1 = nI n) (h8 : n ≤ 8) (hnu : ∀ p, p < n → nu 0 p = nI p) (hok : ∀ p, p < n → okV (vc 0 p)) {p w v : Int32} : Ci l X yX5_set cX5_set 6 (some .int) (rmk 4 86) [.ref (ga X 0), .int p, .int w, .int v] (ch X M q nu vc sb tp by_ sh nn fo kp) (fun z g => z = ansI (S_set n (vc 0) p w v) ∧ g = ch X M q nu (va_up vc 0 (V_set n (vc 0) p w v)) sb tp by_ sh nn (fnF fo (S_set n (vc 0) p w v)) kp) := by
  refine ct_i (own := RX5) (lv := [some (.ref (ga X 0)), some (.int p), some (.int w), some (.int v), none, none]) (by decide) rfl (Nat.le_of_ble_eq_true rfl) (Nat.le_of_ble_eq_true rfl) rfl (fun C hC hR => ?_)
  have hix : ∀ P, P < n → pIx n (nI P) = some P := fun P h => pIx_nI h h8
  have hno : ∀ p, (¬ ∃ P, P < n ∧ p = nI P) → pIx n p = none := fun p h => pIx_no h8 h
  refine v_aload_n hC rfl dX5_set_0 (q := 1) rfl ?_
  refine v_iload_n hC rfl dX5_set_1 (q := 2) rfl ?_
  refine v_Vi hC lkV_X5_73 (c_X5_isThere hN h8) rfl (by decide) (k := 0) (by decide) ch_0 rfl rfl (Nat.le_of_ble_eq_true rfl) dX5_set_2 (q := 5) rfl ?_
  rintro _ _ ⟨⟨⟨P2, hP2, rfl⟩, rfl⟩ | ⟨hc2, rfl⟩, rfl⟩
  · refine v_if_eq hC dX5_set_5 (t := 17) rfl (q := 8) rfl (fun h => absurd h (by decide)) (fun _ => ?_)
    refine v_aload_n hC rfl dX5_set_8 (q := 9) rfl ?_
    refine v_iload_n hC rfl dX5_set_9 (q := 10) rfl ?_
    refine v_iload_n hC rfl dX5_set_10 (q := 11) rfl ?_
    refine v_Vi hC lkV_X5_83 (c_X5_maySet hN h8) rfl (by decide) (k := 0) (by decide) ch_0 rfl rfl (Nat.le_of_ble_eq_true rfl) dX5_set_11 (q := 14) rfl ?_
    rintro _ _ ⟨⟨hc11, rfl⟩ | ⟨hc11, rfl⟩, rfl⟩
    · refine v_if_ne hC dX5_set_14 (t := 24) rfl (q := 17) rfl (fun _ => ?_) (fun h => absurd h (by decide))
      refine v_aload_n hC rfl dX5_set_24 (q := 25) rfl ?_
      refine v_get hC fl_X5_12 (k := 0) (by decide) ch_0 rfl dX5_set_25 (q := 28) rfl ?_
      refine v_getN hC nl_X5_76 (k := 1 + 11 * 0) (by decide) (ch_q (b := 0) (by decide)) rfl dX5_set_28 (q := 31) rfl ?_
      refine v_iload_n hC rfl dX5_set_31 (q := 32) rfl ?_
      refine v_aald hC 2 (k := 2 + 11 * 0) (by decide) (ch_p (b := 0) (by decide)) rfl (ix8' (by omega)) (j := P2) (nI_clamp (by omega)) rfl dX5_set_32 (q := 33) rfl ?_
      refine v_astore_4 hC rfl dX5_set_33 (q := 35) rfl ?_
      refine v_aload hC rfl dX5_set_35 (q := 37) rfl ?_
      refine v_iload_n hC rfl dX5_set_37 (q := 38) rfl ?_
      refine v_Vi hC lkV_X5_80 (c_X0_told_F (q := 4 + 11 * 0 + P2) (by omega) (ch_o (by decide) (Or.inl (by omega))) (hok _ hP2)) rfl (by decide) (k := 4 + 11 * 0 + P2) (by omega) (ch_o (b := 0) (k := P2) (by decide) (Or.inl (by omega))) rfl rfl (Nat.le_of_ble_eq_true rfl) dX5_set_38 (q := 41) rfl ?_
      rintro _ _ ⟨rfl, rfl⟩
      refine v_istore_5 hC rfl dX5_set_41 (q := 43) rfl ?_
      refine v_aload hC rfl dX5_set_43 (q := 45) rfl ?_
      refine v_iload_n hC rfl dX5_set_45 (q := 46) rfl ?_
      refine v_iload_n hC rfl dX5_set_46 (q := 47) rfl ?_
      refine v_Vv hC lkV_X5_87 (c_X0_put_F (q := 4 + 11 * 0 + P2) (by omega) (ch_o (by decide) (Or.inl (by omega))) hc11.1) rfl (by decide) (k := 4 + 11 * 0 + P2) (by omega) (ch_o (b := 0) (k := P2) (by decide) (Or.inl (by omega))) rfl rfl (Nat.le_of_ble_eq_true rfl) dX5_set_47 (q := 50) rfl ?_
      rintro _ rfl
      rw [ch_set (by decide) (Or.inl (by omega)), up_same rfl]
      refine v_iload hC rfl dX5_set_50 (q := 52) rfl ?_
      refine hR _ _ _ _ ?_ dX5_set_52
      have e1 : tolF (nu 0 P2) (vc 0 P2) w = vc 0 P2 w.toNatClampNeg := by
        rw [tol_of (Int32.le_trans (by decide) hc11.1.1) (Int32.le_trans hc11.1.2 (by decide)), if_pos]
        rw [fa_lt]
        have h6 := hc11.1.2
        rw [fa_le] at h6
        have h6b : w.toInt ≤ 6 := h6
        show w.toInt < 7
        omega
      rw [e1]
      (refine ⟨?_, ?_⟩ <;> (simp only [S_set, V_set, ansI, fnF, hix _ hP2, if_pos hc11]; done))
    · refine v_if_ne hC dX5_set_14 (t := 24) rfl (q := 17) rfl (fun h => absurd h (by decide)) (fun _ => ?_)
      refine v_aload_n hC rfl dX5_set_17 (q := 18) rfl ?_
      refine v_ldc hC wk_X5_55 dX5_set_18 (q := 20) rfl ?_
      refine v_Vi hC lkV_X5_56 (c_X5_finding (n := 0) (by decide)) rfl (by decide) (k := 0) (by decide) ch_0 rfl rfl (Nat.le_of_ble_eq_true rfl) dX5_set_20 (q := 23) rfl ?_
      rintro _ _ ⟨rfl, rfl⟩
      refine hR _ _ _ _ ?_ dX5_set_23
      (refine ⟨?_, ?_⟩ <;> (simp only [S_set, V_set, ansI, fnF, hix _ hP2, if_neg hc11, up_id]; done))
  · refine v_if_eq hC dX5_set_5 (t := 17) rfl (q := 8) rfl (fun _ => ?_) (fun h => absurd h (by decide))
    refine v_aload_n hC rfl dX5_set_17 (q := 18) rfl ?_
    refine v_ldc hC wk_X5_55 dX5_set_18 (q := 20) rfl ?_
    refine v_Vi hC lkV_X5_56 (c_X5_finding (n := 0) (by decide)) rfl (by decide) (k := 0) (by decide) ch_0 rfl rfl (Nat.le_of_ble_eq_true rfl) dX5_set_20 (q := 23) rfl ?_
    rintro _ _ ⟨rfl, rfl⟩
    refine hR _ _ _ _ ?_ dX5_set_23
    (refine ⟨?_, ?_⟩ <;> (simp [S_set, V_set, ansI, fnF, hno _ hc2, up_id]; done))

set_option maxHeartbeats 4000000 in
set_option maxRecDepth 100000 in
theorem c_X5_turn {l : Launch} {X : Gx} {M : MS} {q nu : Nat → Nat → Int32} {vc : Nat → Nat → Nat → Int32} {sb : Nat → Nat → Int32} {tp by_ : Nat → Int32} {sh : Nat → Nat → Int32} {nn : Nat → Nat → Int64} {fo : Nat → Int32} {kp : Int32} {n : Nat} (hN : q 0 1 = nI n) (h8 : n ≤ 8) (hnu : ∀ p, p < n → nu 0 p = nI p) (hok : ∀ p, p < n → okV (vc 0 p)) {p kd : Int32} : Ci l X yX5_turn cX5_turn 5 (some .int) (rmk 1 22) [.ref (ga X 0), .int p, .int kd] (ch X M q nu vc sb tp by_ sh nn fo kp) (fun z g => z = ansI (S_turn n (vc 0) p kd) ∧ g = ch X M q nu (va_up vc 0 (V_turn n (vc 0) p kd)) sb tp by_ sh nn (fnF fo (S_turn n (vc 0) p kd)) kp) := by
  refine ct_i (own := RX5) (lv := [some (.ref (ga X 0)), some (.int p), some (.int kd), none, none]) (by decide) rfl (Nat.le_of_ble_eq_true rfl) (Nat.le_of_ble_eq_true rfl) rfl (fun C hC hR => ?_)
  have hix : ∀ P, P < n → pIx n (nI P) = some P := fun P h => pIx_nI h h8
  have hno : ∀ p, (¬ ∃ P, P < n ∧ p = nI P) → pIx n p = none := fun p h => pIx_no h8 h
  refine v_aload_n hC rfl dX5_turn_0 (q := 1) rfl ?_
  refine v_iload_n hC rfl dX5_turn_1 (q := 2) rfl ?_
  refine v_Vi hC lkV_X5_73 (c_X5_isThere hN h8) rfl (by decide) (k := 0) (by decide) ch_0 rfl rfl (Nat.le_of_ble_eq_true rfl) dX5_turn_2 (q := 5) rfl ?_
  rintro _ _ ⟨⟨⟨P2, hP2, rfl⟩, rfl⟩ | ⟨hc2, rfl⟩, rfl⟩
  · refine v_if_eq hC dX5_turn_5 (t := 15) rfl (q := 8) rfl (fun h => absurd h (by decide)) (fun _ => ?_)
    refine v_iload_n hC rfl dX5_turn_8 (q := 9) rfl ?_
    refine v_Si hC lkS_X5_51 c_X5_isKind rfl (by decide) rfl (Nat.le_of_ble_eq_true rfl) dX5_turn_9 (q := 12) rfl ?_
    rintro _ _ ⟨⟨hc9, rfl⟩ | ⟨hc9, rfl⟩, rfl⟩
    · refine v_if_ne hC dX5_turn_12 (t := 22) rfl (q := 15) rfl (fun _ => ?_) (fun h => absurd h (by decide))
      refine v_aload_n hC rfl dX5_turn_22 (q := 23) rfl ?_
      refine v_get hC fl_X5_12 (k := 0) (by decide) ch_0 rfl dX5_turn_23 (q := 26) rfl ?_
      refine v_getN hC nl_X5_76 (k := 1 + 11 * 0) (by decide) (ch_q (b := 0) (by decide)) rfl dX5_turn_26 (q := 29) rfl ?_
      refine v_iload_n hC rfl dX5_turn_29 (q := 30) rfl ?_
      refine v_aald hC 2 (k := 2 + 11 * 0) (by decide) (ch_p (b := 0) (by decide)) rfl (ix8' (by omega)) (j := P2) (nI_clamp (by omega)) rfl dX5_turn_30 (q := 31) rfl ?_
      refine v_astore_3 hC rfl dX5_turn_31 (q := 32) rfl ?_
      refine v_aload_n hC rfl dX5_turn_32 (q := 33) rfl ?_
      refine v_getN hC nl_X5_91 (k := 4 + 11 * 0 + P2) (by omega) (ch_o (b := 0) (k := P2) (by decide) (Or.inl (by omega))) rfl dX5_turn_33 (q := 36) rfl ?_
      refine v_istore_4 hC rfl dX5_turn_36 (q := 38) rfl ?_
      refine v_aload_n hC rfl dX5_turn_38 (q := 39) rfl ?_
      refine v_iload_n hC rfl dX5_turn_39 (q := 40) rfl ?_
      refine v_putN hC nl_X5_91 pt_0_1 (k := 4 + 11 * 0 + P2) (by omega) (ch_o (b := 0) (k := P2) (by decide) (Or.inl (by omega))) (Nat.le_of_ble_eq_true rfl) rfl rfl (ch_of0 (by decide) (Or.inl (by omega)) _) dX5_turn_40 (q := 43) rfl ?_
      refine v_iload hC rfl dX5_turn_43 (q := 45) rfl ?_
      refine hR _ _ _ _ ?_ dX5_turn_45
      (refine ⟨?_, ?_⟩ <;> (simp only [S_turn, V_turn, ansI, fnF, hix _ hP2, if_pos hc9]; done))
    · refine v_if_ne hC dX5_turn_12 (t := 22) rfl (q := 15) rfl (fun h => absurd h (by decide)) (fun _ => ?_)
      refine v_aload_n hC rfl dX5_turn_15 (q := 16) rfl ?_
      refine v_ldc hC wk_X5_55 dX5_turn_16 (q := 18) rfl ?_
      refine v_Vi hC lkV_X5_56 (c_X5_finding (n := 0) (by decide)) rfl (by decide) (k := 0) (by decide) ch_0 rfl rfl (Nat.le_of_ble_eq_true rfl) dX5_turn_18 (q := 21) rfl ?_
      rintro _ _ ⟨rfl, rfl⟩
      refine hR _ _ _ _ ?_ dX5_turn_21
      (refine ⟨?_, ?_⟩ <;> (simp only [S_turn, V_turn, ansI, fnF, hix _ hP2, if_neg hc9, up_id]; done))
  · refine v_if_eq hC dX5_turn_5 (t := 15) rfl (q := 8) rfl (fun _ => ?_) (fun h => absurd h (by decide))
    refine v_aload_n hC rfl dX5_turn_15 (q := 16) rfl ?_
    refine v_ldc hC wk_X5_55 dX5_turn_16 (q := 18) rfl ?_
    refine v_Vi hC lkV_X5_56 (c_X5_finding (n := 0) (by decide)) rfl (by decide) (k := 0) (by decide) ch_0 rfl rfl (Nat.le_of_ble_eq_true rfl) dX5_turn_18 (q := 21) rfl ?_
    rintro _ _ ⟨rfl, rfl⟩
    refine hR _ _ _ _ ?_ dX5_turn_21
    (refine ⟨?_, ?_⟩ <;> (simp [S_turn, V_turn, ansI, fnF, hno _ hc2, up_id]; done))

set_option maxHeartbeats 4000000 in
set_option maxRecDepth 100000 in
theorem c_X5_grind {l : Launch} {X : Gx} {M : MS} {q nu : Nat → Nat → Int32} {vc : Nat → Nat → Nat → Int32} {sb : Nat → Nat → Int32} {tp by_ : Nat → Int32} {sh : Nat → Nat → Int32} {nn : Nat → Nat → Int64} {fo : Nat → Int32} {kp : Int32} {n : Nat} (hN : q 0 1 = nI n) (h8 : n ≤ 8) (hnu : ∀ p, p < n → nu 0 p = nI p) (hok : ∀ p, p < n → okV (vc 0 p)) {p : Int32} : Ci l X yX5_grind cX5_grind 3 (some .int) (rmk 3 63) [.ref (ga X 0), .int p] (ch X M q nu vc sb tp by_ sh nn fo kp) (fun z g => z = ansI (S_grind n (vc 0) p) ∧ g = ch X M q nu (va_up vc 0 (V_grind n (vc 0) p)) sb tp by_ sh nn (fnF fo (S_grind n (vc 0) p)) kp) := by
  refine ct_i (own := RX5) (lv := [some (.ref (ga X 0)), some (.int p), none]) (by decide) rfl (Nat.le_of_ble_eq_true rfl) (Nat.le_of_ble_eq_true rfl) rfl (fun C hC hR => ?_)
  have hix : ∀ P, P < n → pIx n (nI P) = some P := fun P h => pIx_nI h h8
  have hno : ∀ p, (¬ ∃ P, P < n ∧ p = nI P) → pIx n p = none := fun p h => pIx_no h8 h
  refine v_aload_n hC rfl dX5_grind_0 (q := 1) rfl ?_
  refine v_iload_n hC rfl dX5_grind_1 (q := 2) rfl ?_
  refine v_Vi hC lkV_X5_73 (c_X5_isThere hN h8) rfl (by decide) (k := 0) (by decide) ch_0 rfl rfl (Nat.le_of_ble_eq_true rfl) dX5_grind_2 (q := 5) rfl ?_
  rintro _ _ ⟨⟨⟨P2, hP2, rfl⟩, rfl⟩ | ⟨hc2, rfl⟩, rfl⟩
  · refine v_if_ne hC dX5_grind_5 (t := 15) rfl (q := 8) rfl (fun _ => ?_) (fun h => absurd h (by decide))
    refine v_aload_n hC rfl dX5_grind_15 (q := 16) rfl ?_
    refine v_get hC fl_X5_12 (k := 0) (by decide) ch_0 rfl dX5_grind_16 (q := 19) rfl ?_
    refine v_getN hC nl_X5_76 (k := 1 + 11 * 0) (by decide) (ch_q (b := 0) (by decide)) rfl dX5_grind_19 (q := 22) rfl ?_
    refine v_iload_n hC rfl dX5_grind_22 (q := 23) rfl ?_
    refine v_aald hC 2 (k := 2 + 11 * 0) (by decide) (ch_p (b := 0) (by decide)) rfl (ix8' (by omega)) (j := P2) (nI_clamp (by omega)) rfl dX5_grind_23 (q := 24) rfl ?_
    refine v_astore_2 hC rfl dX5_grind_24 (q := 25) rfl ?_
    refine v_aload_n hC rfl dX5_grind_25 (q := 26) rfl ?_
    refine v_getN hC nl_X5_101 (k := 4 + 11 * 0 + P2) (by omega) (ch_o (b := 0) (k := P2) (by decide) (Or.inl (by omega))) rfl dX5_grind_26 (q := 29) rfl ?_
    refine v_iconst hC (v := (-1)) rfl dX5_grind_29 (q := 30) rfl ?_
    refine v_icmp_ne hC dX5_grind_30 (t := 40) rfl (q := 33) rfl (fun h30 => ?_) (fun h30 => ?_)
    · refine v_aload_n hC rfl dX5_grind_40 (q := 41) rfl ?_
      refine v_Vv hC lkV_X5_105 (c_X0_haveGround_F (q := 4 + 11 * 0 + P2) (by omega) (ch_o (by decide) (Or.inl (by omega))) (hok _ hP2)) rfl (by decide) (k := 4 + 11 * 0 + P2) (by omega) (ch_o (b := 0) (k := P2) (by decide) (Or.inl (by omega))) rfl rfl (Nat.le_of_ble_eq_true rfl) dX5_grind_41 (q := 44) rfl ?_
      rintro _ rfl
      rw [ch_set (by decide) (Or.inl (by omega)), up_same rfl]
      refine v_aload_n hC rfl dX5_grind_44 (q := 45) rfl ?_
      refine v_getN hC nl_X5_108 (k := 4 + 11 * 0 + P2) (by omega) (ch_o (b := 0) (k := P2) (by decide) (Or.inl (by omega))) rfl dX5_grind_45 (q := 48) rfl ?_
      rw [va_up_self, va_up_self]
      refine hR _ _ _ _ ?_ dX5_grind_48
      have hn : ¬ vc 0 P2 2 < 0 := by have := (hok _ hP2).2.2.1; grind
      have eg : grdV (vc 0 P2) 5 = grindF (vc 0 P2) := rfl
      rw [eg]
      (refine ⟨?_, ?_⟩ <;> (simp only [S_grind, V_grind, ansI, fnF, hix _ hP2, if_neg hn]; done))
    · refine v_aload_n hC rfl dX5_grind_33 (q := 34) rfl ?_
      refine v_ldc hC wk_X5_104 dX5_grind_34 (q := 36) rfl ?_
      refine v_Vi hC lkV_X5_56 (c_X5_finding (n := 4) (by decide)) rfl (by decide) (k := 0) (by decide) ch_0 rfl rfl (Nat.le_of_ble_eq_true rfl) dX5_grind_36 (q := 39) rfl ?_
      rintro _ _ ⟨rfl, rfl⟩
      refine hR _ _ _ _ ?_ dX5_grind_39
      have hn : vc 0 P2 2 < 0 := by rw [h30]; decide
      (refine ⟨?_, ?_⟩ <;> (simp only [S_grind, V_grind, ansI, fnF, hix _ hP2, if_pos hn, up_id]; done))
  · refine v_if_ne hC dX5_grind_5 (t := 15) rfl (q := 8) rfl (fun h => absurd h (by decide)) (fun _ => ?_)
    refine v_aload_n hC rfl dX5_grind_8 (q := 9) rfl ?_
    refine v_ldc hC wk_X5_55 dX5_grind_9 (q := 11) rfl ?_
    refine v_Vi hC lkV_X5_56 (c_X5_finding (n := 0) (by decide)) rfl (by decide) (k := 0) (by decide) ch_0 rfl rfl (Nat.le_of_ble_eq_true rfl) dX5_grind_11 (q := 14) rfl ?_
    rintro _ _ ⟨rfl, rfl⟩
    refine hR _ _ _ _ ?_ dX5_grind_14
    (refine ⟨?_, ?_⟩ <;> (simp [S_grind, V_grind, ansI, fnF, hno _ hc2, up_id]; done))

set_option maxHeartbeats 4000000 in
set_option maxRecDepth 100000 in
theorem c_X5_days {l : Launch} {X : Gx} {M : MS} {q nu : Nat → Nat → Int32} {vc : Nat → Nat → Nat → Int32} {sb : Nat → Nat → Int32} {tp by_ : Nat → Int32} {sh : Nat → Nat → Int32} {nn : Nat → Nat → Int64} {fo : Nat → Int32} {kp : Int32} {n : Nat} (hN : q 0 1 = nI n) (h8_ : n ≤ 8) (hnu : ∀ p, p < n → nu 0 p = nI p) (hok : ∀ p, p < n → okV (vc 0 p)) {k : Int32} : Ci l X yX5_days cX5_days 2 (some .int) (rmk 5 110) [.ref (ga X 0), .int k] (ch X M q nu vc sb tp by_ sh nn fo kp) (fun z g => z = ansI (S_days n (dyV (vc 0) n k.toNatClampNeg 0) (q 0 0) k) ∧ g = if 1 ≤ k ∧ k ≤ 100 then (if q 0 0 + k ≤ 9999 then ch X M (va_up q 0 (upd (q 0) 0 (q 0 0 + k))) nu (va_up vc 0 (dyV (vc 0) n k.toNatClampNeg 0)) sb tp by_ sh nn fo kp else ch X M q nu vc sb tp by_ sh nn (fnF fo (.inl 4)) kp) else ch X M q nu vc sb tp by_ sh nn (fnF fo (.inl 0)) kp) := by
  refine ct_i (own := RX5) (lv := [some (.ref (ga X 0)), some (.int k)]) (by decide) rfl (Nat.le_of_ble_eq_true rfl) (Nat.le_of_ble_eq_true rfl) rfl (fun C hC hR => ?_)
  refine v_iload_n hC rfl dX5_days_0 (q := 1) rfl ?_
  refine v_iconst hC (v := 1) rfl dX5_days_1 (q := 2) rfl ?_
  refine v_icmp_lt hC dX5_days_2 (t := 11) rfl (q := 5) rfl (fun h2 => ?_) (fun h2 => ?_)
  · refine v_aload_n hC rfl dX5_days_11 (q := 12) rfl ?_
    refine v_ldc hC wk_X5_55 dX5_days_12 (q := 14) rfl ?_
    refine v_Vi hC lkV_X5_56 (c_X5_finding (n := 0) (by decide)) rfl (by decide) (k := 0) (by decide) ch_0 rfl rfl (Nat.le_of_ble_eq_true rfl) dX5_days_14 (q := 17) rfl ?_
    rintro _ _ ⟨rfl, rfl⟩
    refine hR _ _ _ _ ?_ dX5_days_17
    have hkk : ¬ (1 ≤ k ∧ k ≤ 100) := fun z => Int32.not_le.mpr h2 z.1
    (refine ⟨?_, ?_⟩ <;> (simp only [S_days, ansI, fnF, if_neg hkk]; done))
  · refine v_iload_n hC rfl dX5_days_5 (q := 6) rfl ?_
    refine v_bipush hC (v := 100) rfl dX5_days_6 (q := 8) rfl ?_
    refine v_icmp_le hC dX5_days_8 (t := 18) rfl (q := 11) rfl (fun h8 => ?_) (fun h8 => ?_)
    · refine v_aload_n hC rfl dX5_days_18 (q := 19) rfl ?_
      refine v_get hC fl_X5_12 (k := 0) (by decide) ch_0 rfl dX5_days_19 (q := 22) rfl ?_
      refine v_getN hC nl_X5_128 (k := 1 + 11 * 0) (by decide) (ch_q (b := 0) (by decide)) rfl dX5_days_22 (q := 25) rfl ?_
      refine v_iload_n hC rfl dX5_days_25 (q := 26) rfl ?_
      refine v_iadd hC dX5_days_26 (q := 27) rfl ?_
      refine v_sipush hC (v := 9999) rfl dX5_days_27 (q := 30) rfl ?_
      refine v_icmp_le hC dX5_days_30 (t := 40) rfl (q := 33) rfl (fun h30 => ?_) (fun h30 => ?_)
      · obtain ⟨K, _, hK, rfl⟩ := w_of' (a := 1) (N := 100) (by decide) (by decide) (Int32.not_lt.mp h2) h8
        have hcl : (nI K).toNatClampNeg = K := nI_clamp (by omega)
        have hkk : 1 ≤ nI K ∧ nI K ≤ 100 := ⟨Int32.not_lt.mp h2, h8⟩
        refine v_aload_n hC rfl dX5_days_40 (q := 41) rfl ?_
        refine v_get hC fl_X5_12 (k := 0) (by decide) ch_0 rfl dX5_days_41 (q := 44) rfl ?_
        refine v_iload_n hC rfl dX5_days_44 (q := 45) rfl ?_
        refine v_Vv hC lkV_X5_131 (c_X1_letDaysGo_C (b := 0) (by decide) hN h8_ hnu hok (k := K) (by omega)) rfl (by decide) (k := 1 + 11 * 0) (by decide) (ch_q (b := 0) (by decide)) rfl rfl (Nat.le_of_ble_eq_true rfl) dX5_days_45 (q := 48) rfl ?_
        rintro _ rfl
        refine v_aload_n hC rfl dX5_days_48 (q := 49) rfl ?_
        refine v_get hC fl_X5_12 (k := 0) (by decide) ch_0 rfl dX5_days_49 (q := 52) rfl ?_
        refine v_Vi hC lkV_X5_135 (c_X1_grudges_C (b := 0) (by decide) (by simp [va_up, upd, hN]) h8_) rfl (by decide) (k := 1 + 11 * 0) (by decide) (ch_q (b := 0) (by decide)) rfl rfl (Nat.le_of_ble_eq_true rfl) dX5_days_52 (q := 55) rfl ?_
        rintro _ _ ⟨rfl, rfl⟩
        refine hR _ _ _ _ ?_ dX5_days_55
        (refine ⟨?_, ?_⟩ <;> (simp only [S_days, ansI, fnF, if_pos hkk, if_pos h30, hcl, va_up_self]; done))
      · refine v_aload_n hC rfl dX5_days_33 (q := 34) rfl ?_
        refine v_ldc hC wk_X5_104 dX5_days_34 (q := 36) rfl ?_
        refine v_Vi hC lkV_X5_56 (c_X5_finding (n := 4) (by decide)) rfl (by decide) (k := 0) (by decide) ch_0 rfl rfl (Nat.le_of_ble_eq_true rfl) dX5_days_36 (q := 39) rfl ?_
        rintro _ _ ⟨rfl, rfl⟩
        refine hR _ _ _ _ ?_ dX5_days_39
        have hkk : 1 ≤ k ∧ k ≤ 100 := ⟨Int32.not_lt.mp h2, h8⟩
        (refine ⟨?_, ?_⟩ <;> (simp only [S_days, ansI, fnF, if_pos hkk, if_neg h30]; done))
    · refine v_aload_n hC rfl dX5_days_11 (q := 12) rfl ?_
      refine v_ldc hC wk_X5_55 dX5_days_12 (q := 14) rfl ?_
      refine v_Vi hC lkV_X5_56 (c_X5_finding (n := 0) (by decide)) rfl (by decide) (k := 0) (by decide) ch_0 rfl rfl (Nat.le_of_ble_eq_true rfl) dX5_days_14 (q := 17) rfl ?_
      rintro _ _ ⟨rfl, rfl⟩
      refine hR _ _ _ _ ?_ dX5_days_17
      have hkk : ¬ (1 ≤ k ∧ k ≤ 100) := fun z => h8 z.2
      (refine ⟨?_, ?_⟩ <;> (simp only [S_days, ansI, fnF, if_neg hkk]; done))

set_option maxHeartbeats 4000000 in
set_option maxRecDepth 100000 in
theorem c_X5_lend {l : Launch} {X : Gx} {M : MS} {q nu : Nat → Nat → Int32} {vc : Nat → Nat → Nat → Int32} {sb : Nat → Nat → Int32} {tp by_ : Nat → Int32} {sh : Nat → Nat → Int32} {nn : Nat → Nat → Int64} {fo : Nat → Int32} {kp : Int32} {n : Nat} (hN : q 0 1 = nI n) (h8 : n ≤ 8) (hnu : ∀ p, p < n → nu 0 p = nI p) (hok : ∀ p, p < n → okV (vc 0 p)) {p q_ : Int32} : Ci l X yX5_lend cX5_lend 5 (some .int) (rmk 2 43) [.ref (ga X 0), .int p, .int q_] (ch X M q nu vc sb tp by_ sh nn fo kp) (fun z g => z = ansI (S_lend n p q_) ∧ ∃ T2, g = ch X M q nu (va_up (va_up vc 2 T2) 0 (V_lend n (vc 0) p q_)) sb tp by_ sh nn (fnF fo (S_lend n p q_)) kp) := by
  refine ct_i (own := RX5) (lv := [some (.ref (ga X 0)), some (.int p), some (.int q_), none, none]) (by decide) rfl (Nat.le_of_ble_eq_true rfl) (Nat.le_of_ble_eq_true rfl) rfl (fun C hC hR => ?_)
  have hix : ∀ P Q, P < n → Q < n → P ≠ Q → pTw n (nI P) (nI Q) = some (P, Q) := fun P Q a b c => pTw_nI h8 a b c
  have hno : ∀ p q, (¬ ∃ P Q, P < n ∧ Q < n ∧ P ≠ Q ∧ p = nI P ∧ q = nI Q) → pTw n p q = none := fun p q h => pTw_no h8 h
  refine v_aload_n hC rfl dX5_lend_0 (q := 1) rfl ?_
  refine v_iload_n hC rfl dX5_lend_1 (q := 2) rfl ?_
  refine v_iload_n hC rfl dX5_lend_2 (q := 3) rfl ?_
  refine v_Vi hC lkV_X5_111 (c_X5_areTwo hN h8) rfl (by decide) (k := 0) (by decide) ch_0 rfl rfl (Nat.le_of_ble_eq_true rfl) dX5_lend_3 (q := 6) rfl ?_
  rintro _ _ ⟨⟨⟨P3, Q3, hP3, hQ3, hne3, rfl, rfl⟩, rfl⟩ | ⟨hc3, rfl⟩, rfl⟩
  · refine v_if_ne hC dX5_lend_6 (t := 16) rfl (q := 9) rfl (fun _ => ?_) (fun h => absurd h (by decide))
    refine v_aload_n hC rfl dX5_lend_16 (q := 17) rfl ?_
    refine v_get hC fl_X5_12 (k := 0) (by decide) ch_0 rfl dX5_lend_17 (q := 20) rfl ?_
    refine v_getN hC nl_X5_76 (k := 1 + 11 * 0) (by decide) (ch_q (b := 0) (by decide)) rfl dX5_lend_20 (q := 23) rfl ?_
    refine v_iload_n hC rfl dX5_lend_23 (q := 24) rfl ?_
    refine v_aald hC 2 (k := 2 + 11 * 0) (by decide) (ch_p (b := 0) (by decide)) rfl (ix8' (by omega)) (j := P3) (nI_clamp (by omega)) rfl dX5_lend_24 (q := 25) rfl ?_
    refine v_astore_3 hC rfl dX5_lend_25 (q := 26) rfl ?_
    refine v_aload_n hC rfl dX5_lend_26 (q := 27) rfl ?_
    refine v_get hC fl_X5_12 (k := 0) (by decide) ch_0 rfl dX5_lend_27 (q := 30) rfl ?_
    refine v_getN hC nl_X5_76 (k := 1 + 11 * 0) (by decide) (ch_q (b := 0) (by decide)) rfl dX5_lend_30 (q := 33) rfl ?_
    refine v_iload_n hC rfl dX5_lend_33 (q := 34) rfl ?_
    refine v_aald hC 2 (k := 2 + 11 * 0) (by decide) (ch_p (b := 0) (by decide)) rfl (ix8' (by omega)) (j := Q3) (nI_clamp (by omega)) rfl dX5_lend_34 (q := 35) rfl ?_
    refine v_astore_4 hC rfl dX5_lend_35 (q := 37) rfl ?_
    refine v_aload_n hC rfl dX5_lend_37 (q := 38) rfl ?_
    refine v_get hC fl_X5_25 (k := 0) (by decide) ch_0 rfl dX5_lend_38 (q := 41) rfl ?_
    refine v_aload_n hC rfl dX5_lend_41 (q := 42) rfl ?_
    refine v_Vv hC lkV_X5_114 (c_X0_takePairOf_F (q := 4 + 11 * 2 + 8) (by decide) (ch_o (by decide) (Or.inr ⟨rfl, rfl⟩)) (q2 := 4 + 11 * 0 + P3) (by omega) (by omega) (ch_o (by decide) (Or.inl (by omega)))) rfl (by decide) (k := 4 + 11 * 2 + 8) (by decide) (ch_o (b := 2) (k := 8) (by decide) (Or.inr ⟨rfl, rfl⟩)) rfl rfl (Nat.le_of_ble_eq_true rfl) dX5_lend_42 (q := 45) rfl ?_
    rintro _ rfl
    rw [ch_set (by decide) (Or.inr ⟨rfl, rfl⟩), up_same rfl]
    refine v_aload_n hC rfl dX5_lend_45 (q := 46) rfl ?_
    refine v_aload hC rfl dX5_lend_46 (q := 48) rfl ?_
    refine v_Vv hC lkV_X5_114 (c_X0_takePairOf_F (q := 4 + 11 * 0 + P3) (by omega) (ch_o (by decide) (Or.inl (by omega))) (q2 := 4 + 11 * 0 + Q3) (by omega) (by omega) (ch_o (by decide) (Or.inl (by omega)))) rfl (by decide) (k := 4 + 11 * 0 + P3) (by omega) (ch_o (b := 0) (k := P3) (by decide) (Or.inl (by omega))) rfl rfl (Nat.le_of_ble_eq_true rfl) dX5_lend_48 (q := 51) rfl ?_
    rintro _ rfl
    rw [ch_set (by decide) (Or.inl (by omega)), up_same rfl]
    refine v_aload hC rfl dX5_lend_51 (q := 53) rfl ?_
    refine v_aload_n hC rfl dX5_lend_53 (q := 54) rfl ?_
    refine v_get hC fl_X5_25 (k := 0) (by decide) ch_0 rfl dX5_lend_54 (q := 57) rfl ?_
    refine v_Vv hC lkV_X5_114 (c_X0_takePairOf_F (q := 4 + 11 * 0 + Q3) (by omega) (ch_o (by decide) (Or.inl (by omega))) (q2 := 4 + 11 * 2 + 8) (by decide) (by omega) (ch_o (by decide) (Or.inr ⟨rfl, rfl⟩))) rfl (by decide) (k := 4 + 11 * 0 + Q3) (by omega) (ch_o (b := 0) (k := Q3) (by decide) (Or.inl (by omega))) rfl rfl (Nat.le_of_ble_eq_true rfl) dX5_lend_57 (q := 60) rfl ?_
    rintro _ rfl
    rw [ch_set (by decide) (Or.inl (by omega)), up_same rfl]
    refine v_iconst hC (v := 1) rfl dX5_lend_60 (q := 61) rfl ?_
    refine hR _ _ _ _ ?_ dX5_lend_61
    refine ⟨by simp only [S_lend, ansI, hix _ _ hP3 hQ3 hne3], va_up (vc 2) 8 (vsw (vc 2 8) (vc 0 P3)), ?_⟩
    simp only [S_lend, V_lend, fnF, hix _ _ hP3 hQ3 hne3]
    refine congrArg (fun z => ch X M q nu z sb tp by_ sh nn fo kp) ?_
    funext b
    by_cases h0 : b = 0
    · subst h0
      simp only [va_up_self, va_up_ne _ _ (show (0 : Nat) ≠ 2 by decide), va_up_ne _ _ (show (2 : Nat) ≠ 0 by decide), va_up_ne _ _ (Ne.symm hne3)]
      rfl
    · simp only [va_up_ne _ _ h0]
  · refine v_if_ne hC dX5_lend_6 (t := 16) rfl (q := 9) rfl (fun h => absurd h (by decide)) (fun _ => ?_)
    refine v_aload_n hC rfl dX5_lend_9 (q := 10) rfl ?_
    refine v_ldc hC wk_X5_55 dX5_lend_10 (q := 12) rfl ?_
    refine v_Vi hC lkV_X5_56 (c_X5_finding (n := 0) (by decide)) rfl (by decide) (k := 0) (by decide) ch_0 rfl rfl (Nat.le_of_ble_eq_true rfl) dX5_lend_12 (q := 15) rfl ?_
    rintro _ _ ⟨rfl, rfl⟩
    refine hR _ _ _ _ ?_ dX5_lend_15
    exact ⟨by simp only [S_lend, ansI, hno _ _ hc3], vc 2, by simp only [S_lend, V_lend, fnF, hno _ _ hc3, up_id]⟩
