set_option maxHeartbeats 4000000 in
set_option maxRecDepth 100000 in
theorem c_X6_orNone {l : Launch} {X : Gx} {S : CS} {i m : Nat → Int32} {r : Nat → Nat → Int32} {c : Nat → Int64} {e : Option Nat} (he : ∀ k, e = some k → k < 1000) : Ci l X yX6_orNone cX6_orNone 2 (some .int) (rmk 1 21) [.ref (ga X 47), .int (m1N e)] (hp X S (i, m, r, c)) (fun z g => z = ansI (orN e) ∧ g = hp X S (i, m, fnR r (orN e), c)) := by
  refine ct_i (own := RX6) (lv := [some (.ref (ga X 47)), some (.int (m1N e))]) (by decide) rfl (Nat.le_of_ble_eq_true rfl) (Nat.le_of_ble_eq_true rfl) rfl (fun C hC hR => ?_)
  refine v_iload_n hC rfl dX6_orNone_0 (q := 1) rfl ?_
  refine v_if_ge hC dX6_orNone_1 (t := 13) rfl (q := 4) rfl (fun h1 => ?_) (fun h1 => ?_)
  · refine v_iload_n hC rfl dX6_orNone_13 (q := 14) rfl ?_
    refine hR _ _ _ _ ?_ dX6_orNone_14
    cases e with
    | none => first | exact absurd h1 (by decide) | exact ⟨rfl, rfl⟩
    | some k =>
      have hk := he k rfl
      first | exact ⟨rfl, rfl⟩ | exact absurd (nI_pos' (by omega)) h1
  · refine v_aload_n hC rfl dX6_orNone_4 (q := 5) rfl ?_
    refine v_ldc hC wk_X6_36 dX6_orNone_5 (q := 7) rfl ?_
    refine v_Vi hC lkV_X6_37 (c_X6_finds (n := 3) (by decide)) rfl (by decide) (k := 47) (by decide) hp_47 rfl rfl (Nat.le_of_ble_eq_true rfl) dX6_orNone_7 (q := 10) rfl ?_
    rintro _ _ ⟨rfl, rfl⟩
    refine v_goto hC dX6_orNone_10 (t := 14) rfl ?_
    refine hR _ _ _ _ ?_ dX6_orNone_14
    cases e with
    | none => first | exact absurd h1 (by decide) | exact ⟨rfl, rfl⟩
    | some k =>
      have hk := he k rfl
      first | exact ⟨rfl, rfl⟩ | exact absurd (nI_pos' (by omega)) h1

set_option maxHeartbeats 4000000 in
set_option maxRecDepth 100000 in
theorem c_X6_easedIn {l : Launch} {X : Gx} {S : CS} {i m : Nat → Int32} {r : Nat → Nat → Int32} {c : Nat → Int64} {n p : Nat} (hN : m 1 = nI n) (h8 : n ≤ 8) (hP : p < n) : Ci l X yX6_easedIn cX6_easedIn 3 (some .int) (rmk 5 115) [.ref (ga X 47), .int (nI p)] (hp X S (i, m, r, c)) (fun z g => z = m1N (eas (nI p) (pv m p)) ∧ g = hp X S (i, r 2, r, c)) := by
  refine ct_i (own := RX6) (lv := [some (.ref (ga X 47)), some (.int (nI p)), none]) (by decide) rfl (Nat.le_of_ble_eq_true rfl) (Nat.le_of_ble_eq_true rfl) rfl (fun C hC hR => ?_)
  have e1 : ∀ j, goN n m j 1 = nI n := fun j => (goN_1 j).trans hN
  have loop : ∀ j, j ≤ 201 → eas (nI p) (pv m p) = fstN (easB (nI p) (pv m p)) (201 - j) j → V l X (rmk 5 115) C (hp X S (i, goN n m j, r, c)) 2 [some (.ref (ga X 47)), some (.int (nI p)), some (.int (nI j))] [] := by
    refine v_up 201 ?_ ?_
    · intro hI
      refine v_iload_n hC rfl dX6_easedIn_2 (q := 3) rfl ?_
      refine v_sipush hC (v := 200) rfl dX6_easedIn_3 (q := 6) rfl ?_
      refine v_icmp_gt hC dX6_easedIn_6 (t := 28) rfl (q := 9) rfl (fun _ => ?_) (fun h => absurd (by decide) h)
      refine v_aload_n hC rfl dX6_easedIn_28 (q := 29) rfl ?_
      refine v_Vv hC lkV_X6_126 c_X6_putsBack rfl (by decide) (k := 47) (by decide) hp_47 rfl rfl (Nat.le_of_ble_eq_true rfl) dX6_easedIn_29 (q := 32) rfl ?_
      rintro _ rfl
      refine v_iload_n hC rfl dX6_easedIn_32 (q := 33) rfl ?_
      refine v_sipush hC (v := 200) rfl dX6_easedIn_33 (q := 36) rfl ?_
      refine v_icmp_le hC dX6_easedIn_36 (t := 43) rfl (q := 39) rfl (fun h => absurd h (by decide)) (fun _ => ?_)
      refine v_iconst hC (v := (-1)) rfl dX6_easedIn_39 (q := 40) rfl ?_
      refine v_goto hC dX6_easedIn_40 (t := 44) rfl ?_
      refine hR _ _ _ _ ?_ dX6_easedIn_44
      refine ⟨?_, rfl⟩
      first | (rw [hI]; rfl) | (rw [hI, if_pos (by simp only [easB]; rw [← pv_goN hP]; simpa using h15)]; rfl)
    · intro j hj ih hI
      rw [show 201 - j = (201 - (j + 1)) + 1 by omega, fstN] at hI
      have hj8 : p < 8 := by omega
      refine v_iload_n hC rfl dX6_easedIn_2 (q := 3) rfl ?_
      refine v_sipush hC (v := 200) rfl dX6_easedIn_3 (q := 6) rfl ?_
      refine v_icmp_gt hC dX6_easedIn_6 (t := 28) rfl (q := 9) rfl (fun h => absurd h (Int32.not_lt.mpr (nI_le (b := 200) (by omega) (by decide)))) (fun _ => ?_)
      refine v_aload_n hC rfl dX6_easedIn_9 (q := 10) rfl ?_
      refine v_iload_n hC rfl dX6_easedIn_10 (q := 11) rfl ?_
      refine v_iconst hC (v := 1) rfl dX6_easedIn_11 (q := 12) rfl ?_
      refine v_Vi hC lkV_X6_49 (c_X6_it (w := 1) (by first | assumption | omega) (Nat.le_of_ble_eq_true rfl)) rfl (by decide) (k := 47) (by decide) hp_47 rfl rfl (Nat.le_of_ble_eq_true rfl) dX6_easedIn_12 (q := 15) rfl ?_
      rintro _ _ ⟨rfl, rfl⟩
      refine v_if_le hC dX6_easedIn_15 (t := 28) rfl (q := 18) rfl (fun h15 => ?_) (fun h15 => ?_)
      · refine v_aload_n hC rfl dX6_easedIn_28 (q := 29) rfl ?_
        refine v_Vv hC lkV_X6_126 c_X6_putsBack rfl (by decide) (k := 47) (by decide) hp_47 rfl rfl (Nat.le_of_ble_eq_true rfl) dX6_easedIn_29 (q := 32) rfl ?_
        rintro _ rfl
        refine v_iload_n hC rfl dX6_easedIn_32 (q := 33) rfl ?_
        refine v_sipush hC (v := 200) rfl dX6_easedIn_33 (q := 36) rfl ?_
        refine v_icmp_le hC dX6_easedIn_36 (t := 43) rfl (q := 39) rfl (fun _ => ?_) (fun h => absurd (nI_le (b := 200) (by omega) (by decide)) h)
        refine v_iload_n hC rfl dX6_easedIn_43 (q := 44) rfl ?_
        refine hR _ _ _ _ ?_ dX6_easedIn_44
        refine ⟨?_, rfl⟩
        first | (rw [hI]; rfl) | (rw [hI, if_pos (by simp only [easB]; rw [← pv_goN hP]; simpa using h15)]; rfl)
      · refine v_aload_n hC rfl dX6_easedIn_18 (q := 19) rfl ?_
        refine v_Vv hC lkV_X6_102 (c_X6_goes (e1 j) h8) rfl (by decide) (k := 47) (by decide) hp_47 rfl rfl (Nat.le_of_ble_eq_true rfl) dX6_easedIn_19 (q := 22) rfl ?_
        rintro _ rfl
        refine v_iinc_2 hC (v := _ + 1) rfl rfl dX6_easedIn_22 (q := 25) rfl ?_
        refine v_goto hC dX6_easedIn_25 (t := 2) rfl ?_
        refine v_same rfl ?_ rfl (ih ?_)
        · simp [nI_1]
        · rw [hI, if_neg (by simp only [easB]; rw [← pv_goN hP]; simpa using h15)]
  refine v_iconst hC (v := 0) rfl dX6_easedIn_0 (q := 1) rfl ?_
  refine v_istore_2 hC rfl dX6_easedIn_1 (q := 2) rfl ?_
  exact loop 0 (by decide) (eas_eq _ _)

set_option maxHeartbeats 4000000 in
set_option maxRecDepth 100000 in
theorem c_X6_forgives {l : Launch} {X : Gx} {S : CS} {i m : Nat → Int32} {r : Nat → Nat → Int32} {c : Nat → Int64} {n : Nat} (hN : m 1 = nI n) (h8 : n ≤ 8) {p : Int32} : Ci l X yX6_forgives cX6_forgives 2 (some .int) (rmk 6 137) [.ref (ga X 47), .int p] (hp X S (i, m, r, c)) (fun z g => z = ansI (S_forgives n (pv m) p) ∧ ∃ W, g = hp X S (i, m, fnR (va_up r 2 W) (S_forgives n (pv m) p), c)) := by
  refine ct_i (own := RX6) (lv := [some (.ref (ga X 47)), some (.int p)]) (by decide) rfl (Nat.le_of_ble_eq_true rfl) (Nat.le_of_ble_eq_true rfl) rfl (fun C hC hR => ?_)
  have hix : ∀ P, P < n → pIx n (nI P) = some P := fun P h => pIx_nI h h8
  have hno : ∀ p, (¬ ∃ P, P < n ∧ p = nI P) → pIx n p = none := fun p h => pIx_no h8 h
  refine v_aload_n hC rfl dX6_forgives_0 (q := 1) rfl ?_
  refine v_iload_n hC rfl dX6_forgives_1 (q := 2) rfl ?_
  refine v_Vi hC lkV_X6_45 (c_X6_isPerson hN h8) rfl (by decide) (k := 47) (by decide) hp_47 rfl rfl (Nat.le_of_ble_eq_true rfl) dX6_forgives_2 (q := 5) rfl ?_
  rintro _ _ ⟨⟨⟨P2, hP2, rfl⟩, rfl⟩ | ⟨hc2, rfl⟩, rfl⟩
  · refine v_if_ne hC dX6_forgives_5 (t := 15) rfl (q := 8) rfl (fun _ => ?_) (fun h => absurd h (by decide))
    refine v_aload_n hC rfl dX6_forgives_15 (q := 16) rfl ?_
    refine v_Vv hC lkV_X6_123 c_X6_thinks rfl (by decide) (k := 47) (by decide) hp_47 rfl rfl (Nat.le_of_ble_eq_true rfl) dX6_forgives_16 (q := 19) rfl ?_
    rintro _ rfl
    refine v_aload_n hC rfl dX6_forgives_19 (q := 20) rfl ?_
    refine v_aload_n hC rfl dX6_forgives_20 (q := 21) rfl ?_
    refine v_iload_n hC rfl dX6_forgives_21 (q := 22) rfl ?_
    refine v_Vi hC lkV_X6_129 (c_X6_easedIn hN h8 (by assumption)) rfl (by decide) (k := 47) (by decide) hp_47 rfl rfl (Nat.le_of_ble_eq_true rfl) dX6_forgives_22 (q := 25) rfl ?_
    rintro _ _ ⟨rfl, rfl⟩
    rw [va_up_self]
    refine v_Vi hC lkV_X6_132 (c_X6_orNone (fun k h => by have := fstN_lt _ _ _ ((eas_eq _ _).symm.trans h); omega)) rfl (by decide) (k := 47) (by decide) hp_47 rfl rfl (Nat.le_of_ble_eq_true rfl) dX6_forgives_25 (q := 28) rfl ?_
    rintro _ _ ⟨rfl, rfl⟩
    refine hR _ _ _ _ ?_ dX6_forgives_28
    first
      | (refine ⟨?_, r 2, ?_⟩ <;> (simp [S_forgives, ansI, fnR, hno _ hc2, up_id]; done))
      | exact ⟨by simp only [S_forgives, hix _ hP2], m, by simp only [S_forgives, hix _ hP2]⟩
  · refine v_if_ne hC dX6_forgives_5 (t := 15) rfl (q := 8) rfl (fun h => absurd h (by decide)) (fun _ => ?_)
    refine v_aload_n hC rfl dX6_forgives_8 (q := 9) rfl ?_
    refine v_ldc hC wk_X6_35 dX6_forgives_9 (q := 11) rfl ?_
    refine v_Vi hC lkV_X6_37 (c_X6_finds (n := 0) (by decide)) rfl (by decide) (k := 47) (by decide) hp_47 rfl rfl (Nat.le_of_ble_eq_true rfl) dX6_forgives_11 (q := 14) rfl ?_
    rintro _ _ ⟨rfl, rfl⟩
    refine hR _ _ _ _ ?_ dX6_forgives_14
    first
      | (refine ⟨?_, r 2, ?_⟩ <;> (simp [S_forgives, ansI, fnR, hno _ hc2, up_id]; done))
      | exact ⟨by simp only [S_forgives, hix _ hP2], m, by simp only [S_forgives, hix _ hP2]⟩

set_option maxHeartbeats 4000000 in
set_option maxRecDepth 100000 in
theorem c_X6_on {l : Launch} {X : Gx} {S : CS} {i m : Nat → Int32} {r : Nat → Nat → Int32} {c : Nat → Int64} {n : Nat} (hN : m 1 = nI n) (h8 : n ≤ 8) {p k w : Int32} : Ci l X yX6_on cX6_on 5 (some .int) (rmk 6 137) [.ref (ga X 47), .int p, .int k, .int w] (hp X S (i, m, r, c)) (fun z g => z = ansI (S_on n (pv m) p k w) ∧ ∃ W, g = hp X S (i, m, fnR (va_up r 2 W) (S_on n (pv m) p k w), c)) := by
  refine ct_i (own := RX6) (lv := [some (.ref (ga X 47)), some (.int p), some (.int k), some (.int w), none]) (by decide) rfl (Nat.le_of_ble_eq_true rfl) (Nat.le_of_ble_eq_true rfl) rfl (fun C hC hR => ?_)
  have hix : ∀ P, P < n → pIx n (nI P) = some P := fun P h => pIx_nI h h8
  have hno : ∀ p, (¬ ∃ P, P < n ∧ p = nI P) → pIx n p = none := fun p h => pIx_no h8 h
  refine v_aload_n hC rfl dX6_on_0 (q := 1) rfl ?_
  refine v_iload_n hC rfl dX6_on_1 (q := 2) rfl ?_
  refine v_Vi hC lkV_X6_45 (c_X6_isPerson hN h8) rfl (by decide) (k := 47) (by decide) hp_47 rfl rfl (Nat.le_of_ble_eq_true rfl) dX6_on_2 (q := 5) rfl ?_
  rintro _ _ ⟨⟨⟨P2, hP2, rfl⟩, rfl⟩ | ⟨hc2, rfl⟩, rfl⟩
  · refine v_if_eq hC dX6_on_5 (t := 30) rfl (q := 8) rfl (fun h => absurd h (by decide)) (fun _ => ?_)
    refine v_iload_n hC rfl dX6_on_8 (q := 9) rfl ?_
    refine v_i2l hC dX6_on_9 (q := 10) rfl ?_
    refine v_iconst hC (v := 0) rfl dX6_on_10 (q := 11) rfl ?_
    refine v_sipush hC (v := 200) rfl dX6_on_11 (q := 14) rfl ?_
    refine v_Si hC lkS_X6_41 c_X6_in rfl (by decide) rfl (Nat.le_of_ble_eq_true rfl) dX6_on_14 (q := 17) rfl ?_
    rintro _ _ ⟨⟨hc14, rfl⟩ | ⟨hc14, rfl⟩, rfl⟩
    · refine v_if_eq hC dX6_on_17 (t := 30) rfl (q := 20) rfl (fun h => absurd h (by decide)) (fun _ => ?_)
      refine v_iload_n hC rfl dX6_on_20 (q := 21) rfl ?_
      refine v_i2l hC dX6_on_21 (q := 22) rfl ?_
      refine v_iconst hC (v := 0) rfl dX6_on_22 (q := 23) rfl ?_
      refine v_iconst hC (v := 1) rfl dX6_on_23 (q := 24) rfl ?_
      refine v_Si hC lkS_X6_41 c_X6_in rfl (by decide) rfl (Nat.le_of_ble_eq_true rfl) dX6_on_24 (q := 27) rfl ?_
      rintro _ _ ⟨⟨hc24, rfl⟩ | ⟨hc24, rfl⟩, rfl⟩
      · refine v_if_ne hC dX6_on_27 (t := 37) rfl (q := 30) rfl (fun _ => ?_) (fun h => absurd h (by decide))
        obtain ⟨K, _, hK, rfl⟩ := w_of' (a := 0) (N := 200) (by decide) (by decide) hc14.1 hc14.2
        have hcl : (nI K).toNatClampNeg = K := nI_clamp (by omega)
        refine v_aload_n hC rfl dX6_on_37 (q := 38) rfl ?_
        refine v_Vv hC lkV_X6_123 c_X6_thinks rfl (by decide) (k := 47) (by decide) hp_47 rfl rfl (Nat.le_of_ble_eq_true rfl) dX6_on_38 (q := 41) rfl ?_
        rintro _ rfl
        refine v_aload_n hC rfl dX6_on_41 (q := 42) rfl ?_
        refine v_iload_n hC rfl dX6_on_42 (q := 43) rfl ?_
        refine v_Vv hC lkV_X6_105 (c_X6_goesFor hN h8 (k := K) (by omega)) rfl (by decide) (k := 47) (by decide) hp_47 rfl rfl (Nat.le_of_ble_eq_true rfl) dX6_on_43 (q := 46) rfl ?_
        rintro _ rfl
        refine v_aload_n hC rfl dX6_on_46 (q := 47) rfl ?_
        refine v_iload_n hC rfl dX6_on_47 (q := 48) rfl ?_
        refine v_iload_n hC rfl dX6_on_48 (q := 49) rfl ?_
        refine v_if_ne hC dX6_on_49 (t := 56) rfl (q := 52) rfl (fun h49 => ?_) (fun h49 => ?_)
        · refine v_bipush hC (v := 6) rfl dX6_on_56 (q := 58) rfl ?_
          refine v_Vi hC lkV_X6_49 (c_X6_it (w := 6) (by first | assumption | omega) (Nat.le_of_ble_eq_true rfl)) rfl (by decide) (k := 47) (by decide) hp_47 rfl rfl (Nat.le_of_ble_eq_true rfl) dX6_on_58 (q := 61) rfl ?_
          rintro _ _ ⟨rfl, rfl⟩
          refine v_istore_4 hC rfl dX6_on_61 (q := 63) rfl ?_
          refine v_aload_n hC rfl dX6_on_63 (q := 64) rfl ?_
          refine v_Vv hC lkV_X6_126 c_X6_putsBack rfl (by decide) (k := 47) (by decide) hp_47 rfl rfl (Nat.le_of_ble_eq_true rfl) dX6_on_64 (q := 67) rfl ?_
          rintro _ rfl
          rw [va_up_self]
          refine v_iload hC rfl dX6_on_67 (q := 69) rfl ?_
          refine hR _ _ _ _ ?_ dX6_on_69
          first
            | (refine ⟨?_, r 2, ?_⟩ <;> (simp [S_on, ansI, fnR, hno _ hc2, up_id]; done))
            | (refine ⟨?_, r 2, ?_⟩ <;> (simp [S_on, ansI, fnR, hix _ hP2, up_id, *]; done))
            | (refine ⟨?_, m, ?_⟩ <;> (simp [S_on, ansI, fnR, hix _ hP2, hcl, va_up_self, pv_goN hP2, *]; done))
            | (refine ⟨?_, m, ?_⟩ <;> (simp only [S_on, ansI, fnR, hix _ hP2, hcl, va_up_self, pv_goN hP2]; grind))
        · refine v_iconst hC (v := 1) rfl dX6_on_52 (q := 53) rfl ?_
          refine v_goto hC dX6_on_53 (t := 58) rfl ?_
          refine v_Vi hC lkV_X6_49 (c_X6_it (w := 1) (by first | assumption | omega) (Nat.le_of_ble_eq_true rfl)) rfl (by decide) (k := 47) (by decide) hp_47 rfl rfl (Nat.le_of_ble_eq_true rfl) dX6_on_58 (q := 61) rfl ?_
          rintro _ _ ⟨rfl, rfl⟩
          refine v_istore_4 hC rfl dX6_on_61 (q := 63) rfl ?_
          refine v_aload_n hC rfl dX6_on_63 (q := 64) rfl ?_
          refine v_Vv hC lkV_X6_126 c_X6_putsBack rfl (by decide) (k := 47) (by decide) hp_47 rfl rfl (Nat.le_of_ble_eq_true rfl) dX6_on_64 (q := 67) rfl ?_
          rintro _ rfl
          rw [va_up_self]
          refine v_iload hC rfl dX6_on_67 (q := 69) rfl ?_
          refine hR _ _ _ _ ?_ dX6_on_69
          first
            | (refine ⟨?_, r 2, ?_⟩ <;> (simp [S_on, ansI, fnR, hno _ hc2, up_id]; done))
            | (refine ⟨?_, r 2, ?_⟩ <;> (simp [S_on, ansI, fnR, hix _ hP2, up_id, *]; done))
            | (refine ⟨?_, m, ?_⟩ <;> (simp [S_on, ansI, fnR, hix _ hP2, hcl, va_up_self, pv_goN hP2, *]; done))
            | (refine ⟨?_, m, ?_⟩ <;> (simp only [S_on, ansI, fnR, hix _ hP2, hcl, va_up_self, pv_goN hP2]; grind))
      · refine v_if_ne hC dX6_on_27 (t := 37) rfl (q := 30) rfl (fun h => absurd h (by decide)) (fun _ => ?_)
        refine v_aload_n hC rfl dX6_on_30 (q := 31) rfl ?_
        refine v_ldc hC wk_X6_35 dX6_on_31 (q := 33) rfl ?_
        refine v_Vi hC lkV_X6_37 (c_X6_finds (n := 0) (by decide)) rfl (by decide) (k := 47) (by decide) hp_47 rfl rfl (Nat.le_of_ble_eq_true rfl) dX6_on_33 (q := 36) rfl ?_
        rintro _ _ ⟨rfl, rfl⟩
        refine hR _ _ _ _ ?_ dX6_on_36
        first
          | (refine ⟨?_, r 2, ?_⟩ <;> (simp [S_on, ansI, fnR, hno _ hc2, up_id]; done))
          | (refine ⟨?_, r 2, ?_⟩ <;> (simp [S_on, ansI, fnR, hix _ hP2, up_id, *]; done))
          | (refine ⟨?_, m, ?_⟩ <;> (simp [S_on, ansI, fnR, hix _ hP2, hcl, va_up_self, pv_goN hP2, *]; done))
          | (refine ⟨?_, m, ?_⟩ <;> (simp only [S_on, ansI, fnR, hix _ hP2, hcl, va_up_self, pv_goN hP2]; grind))
    · refine v_if_eq hC dX6_on_17 (t := 30) rfl (q := 20) rfl (fun _ => ?_) (fun h => absurd h (by decide))
      refine v_aload_n hC rfl dX6_on_30 (q := 31) rfl ?_
      refine v_ldc hC wk_X6_35 dX6_on_31 (q := 33) rfl ?_
      refine v_Vi hC lkV_X6_37 (c_X6_finds (n := 0) (by decide)) rfl (by decide) (k := 47) (by decide) hp_47 rfl rfl (Nat.le_of_ble_eq_true rfl) dX6_on_33 (q := 36) rfl ?_
      rintro _ _ ⟨rfl, rfl⟩
      refine hR _ _ _ _ ?_ dX6_on_36
      first
        | (refine ⟨?_, r 2, ?_⟩ <;> (simp [S_on, ansI, fnR, hno _ hc2, up_id]; done))
        | (refine ⟨?_, r 2, ?_⟩ <;> (simp [S_on, ansI, fnR, hix _ hP2, up_id, *]; done))
        | (refine ⟨?_, m, ?_⟩ <;> (simp [S_on, ansI, fnR, hix _ hP2, hcl, va_up_self, pv_goN hP2, *]; done))
        | (refine ⟨?_, m, ?_⟩ <;> (simp only [S_on, ansI, fnR, hix _ hP2, hcl, va_up_self, pv_goN hP2]; grind))
  · refine v_if_eq hC dX6_on_5 (t := 30) rfl (q := 8) rfl (fun _ => ?_) (fun h => absurd h (by decide))
    refine v_aload_n hC rfl dX6_on_30 (q := 31) rfl ?_
    refine v_ldc hC wk_X6_35 dX6_on_31 (q := 33) rfl ?_
    refine v_Vi hC lkV_X6_37 (c_X6_finds (n := 0) (by decide)) rfl (by decide) (k := 47) (by decide) hp_47 rfl rfl (Nat.le_of_ble_eq_true rfl) dX6_on_33 (q := 36) rfl ?_
    rintro _ _ ⟨rfl, rfl⟩
    refine hR _ _ _ _ ?_ dX6_on_36
    first
      | (refine ⟨?_, r 2, ?_⟩ <;> (simp [S_on, ansI, fnR, hno _ hc2, up_id]; done))
      | (refine ⟨?_, r 2, ?_⟩ <;> (simp [S_on, ansI, fnR, hix _ hP2, up_id, *]; done))
      | (refine ⟨?_, m, ?_⟩ <;> (simp [S_on, ansI, fnR, hix _ hP2, hcl, va_up_self, pv_goN hP2, *]; done))
      | (refine ⟨?_, m, ?_⟩ <;> (simp only [S_on, ansI, fnR, hix _ hP2, hcl, va_up_self, pv_goN hP2]; grind))

set_option maxHeartbeats 4000000 in
set_option maxRecDepth 100000 in
theorem c_X6_then {l : Launch} {X : Gx} {S : CS} {i m : Nat → Int32} {r : Nat → Nat → Int32} {c : Nat → Int64} {n : Nat} (hN : m 1 = nI n) (h8 : n ≤ 8) {p q k : Int32} : Ci l X yX6_then cX6_then 5 (some .int) (rmk 6 137) [.ref (ga X 47), .int p, .int q, .int k] (hp X S (i, m, r, c)) (fun z g => z = ansI (S_then n (pv m) p q k) ∧ ∃ W, g = hp X S (i, m, fnR (va_up r 2 W) (S_then n (pv m) p q k), c)) := by
  refine ct_i (own := RX6) (lv := [some (.ref (ga X 47)), some (.int p), some (.int q), some (.int k), none]) (by decide) rfl (Nat.le_of_ble_eq_true rfl) (Nat.le_of_ble_eq_true rfl) rfl (fun C hC hR => ?_)
  have hix : ∀ P Q, P < n → Q < n → P ≠ Q → pTw n (nI P) (nI Q) = some (P, Q) := fun P Q a b c => pTw_nI h8 a b c
  have hno : ∀ p q, (¬ ∃ P Q, P < n ∧ Q < n ∧ P ≠ Q ∧ p = nI P ∧ q = nI Q) → pTw n p q = none := fun p q h => pTw_no h8 h
  refine v_aload_n hC rfl dX6_then_0 (q := 1) rfl ?_
  refine v_iload_n hC rfl dX6_then_1 (q := 2) rfl ?_
  refine v_iload_n hC rfl dX6_then_2 (q := 3) rfl ?_
  refine v_Vi hC lkV_X6_92 (c_X6_areTwo hN h8) rfl (by decide) (k := 47) (by decide) hp_47 rfl rfl (Nat.le_of_ble_eq_true rfl) dX6_then_3 (q := 6) rfl ?_
  rintro _ _ ⟨⟨⟨P3, Q3, hP3, hQ3, hne3, rfl, rfl⟩, rfl⟩ | ⟨hc3, rfl⟩, rfl⟩
  · refine v_if_eq hC dX6_then_6 (t := 21) rfl (q := 9) rfl (fun h => absurd h (by decide)) (fun _ => ?_)
    refine v_iload_n hC rfl dX6_then_9 (q := 10) rfl ?_
    refine v_i2l hC dX6_then_10 (q := 11) rfl ?_
    refine v_iconst hC (v := 0) rfl dX6_then_11 (q := 12) rfl ?_
    refine v_sipush hC (v := 200) rfl dX6_then_12 (q := 15) rfl ?_
    refine v_Si hC lkS_X6_41 c_X6_in rfl (by decide) rfl (Nat.le_of_ble_eq_true rfl) dX6_then_15 (q := 18) rfl ?_
    rintro _ _ ⟨⟨hc15, rfl⟩ | ⟨hc15, rfl⟩, rfl⟩
    · refine v_if_ne hC dX6_then_18 (t := 28) rfl (q := 21) rfl (fun _ => ?_) (fun h => absurd h (by decide))
      obtain ⟨K, _, hK, rfl⟩ := w_of' (a := 0) (N := 200) (by decide) (by decide) hc15.1 hc15.2
      have hcl : (nI K).toNatClampNeg = K := nI_clamp (by omega)
      refine v_aload_n hC rfl dX6_then_28 (q := 29) rfl ?_
      refine v_Vv hC lkV_X6_123 c_X6_thinks rfl (by decide) (k := 47) (by decide) hp_47 rfl rfl (Nat.le_of_ble_eq_true rfl) dX6_then_29 (q := 32) rfl ?_
      rintro _ rfl
      refine v_aload_n hC rfl dX6_then_32 (q := 33) rfl ?_
      refine v_iload_n hC rfl dX6_then_33 (q := 34) rfl ?_
      refine v_Vv hC lkV_X6_105 (c_X6_goesFor hN h8 (k := K) (by omega)) rfl (by decide) (k := 47) (by decide) hp_47 rfl rfl (Nat.le_of_ble_eq_true rfl) dX6_then_34 (q := 37) rfl ?_
      rintro _ rfl
      refine v_aload_n hC rfl dX6_then_37 (q := 38) rfl ?_
      refine v_iload_n hC rfl dX6_then_38 (q := 39) rfl ?_
      refine v_iload_n hC rfl dX6_then_39 (q := 40) rfl ?_
      refine v_Vi hC lkV_X6_57 (c_X6_looksAt (by omega)) rfl (by decide) (k := 47) (by decide) hp_47 rfl rfl (Nat.le_of_ble_eq_true rfl) dX6_then_40 (q := 43) rfl ?_
      rintro _ _ ⟨rfl, rfl⟩
      refine v_istore_4 hC rfl dX6_then_43 (q := 45) rfl ?_
      refine v_aload_n hC rfl dX6_then_45 (q := 46) rfl ?_
      refine v_Vv hC lkV_X6_126 c_X6_putsBack rfl (by decide) (k := 47) (by decide) hp_47 rfl rfl (Nat.le_of_ble_eq_true rfl) dX6_then_46 (q := 49) rfl ?_
      rintro _ rfl
      rw [va_up_self]
      refine v_iload hC rfl dX6_then_49 (q := 51) rfl ?_
      refine hR _ _ _ _ ?_ dX6_then_51
      first
        | (refine ⟨?_, r 2, ?_⟩ <;> (simp [S_then, ansI, fnR, hno _ _ hc3, up_id]; done))
        | (refine ⟨?_, r 2, ?_⟩ <;> (simp [S_then, ansI, fnR, hix _ _ hP3 hQ3 hne3, up_id, *]; done))
        | (refine ⟨?_, m, ?_⟩ <;> (simp [S_then, ansI, fnR, hix _ _ hP3 hQ3 hne3, hcl, va_up_self, pv_goN hP3, *]; done))
    · refine v_if_ne hC dX6_then_18 (t := 28) rfl (q := 21) rfl (fun h => absurd h (by decide)) (fun _ => ?_)
      refine v_aload_n hC rfl dX6_then_21 (q := 22) rfl ?_
      refine v_ldc hC wk_X6_35 dX6_then_22 (q := 24) rfl ?_
      refine v_Vi hC lkV_X6_37 (c_X6_finds (n := 0) (by decide)) rfl (by decide) (k := 47) (by decide) hp_47 rfl rfl (Nat.le_of_ble_eq_true rfl) dX6_then_24 (q := 27) rfl ?_
      rintro _ _ ⟨rfl, rfl⟩
      refine hR _ _ _ _ ?_ dX6_then_27
      first
        | (refine ⟨?_, r 2, ?_⟩ <;> (simp [S_then, ansI, fnR, hno _ _ hc3, up_id]; done))
        | (refine ⟨?_, r 2, ?_⟩ <;> (simp [S_then, ansI, fnR, hix _ _ hP3 hQ3 hne3, up_id, *]; done))
        | (refine ⟨?_, m, ?_⟩ <;> (simp [S_then, ansI, fnR, hix _ _ hP3 hQ3 hne3, hcl, va_up_self, pv_goN hP3, *]; done))
  · refine v_if_eq hC dX6_then_6 (t := 21) rfl (q := 9) rfl (fun _ => ?_) (fun h => absurd h (by decide))
    refine v_aload_n hC rfl dX6_then_21 (q := 22) rfl ?_
    refine v_ldc hC wk_X6_35 dX6_then_22 (q := 24) rfl ?_
    refine v_Vi hC lkV_X6_37 (c_X6_finds (n := 0) (by decide)) rfl (by decide) (k := 47) (by decide) hp_47 rfl rfl (Nat.le_of_ble_eq_true rfl) dX6_then_24 (q := 27) rfl ?_
    rintro _ _ ⟨rfl, rfl⟩
    refine hR _ _ _ _ ?_ dX6_then_27
    first
      | (refine ⟨?_, r 2, ?_⟩ <;> (simp [S_then, ansI, fnR, hno _ _ hc3, up_id]; done))
      | (refine ⟨?_, r 2, ?_⟩ <;> (simp [S_then, ansI, fnR, hix _ _ hP3 hQ3 hne3, up_id, *]; done))
      | (refine ⟨?_, m, ?_⟩ <;> (simp [S_then, ansI, fnR, hix _ _ hP3 hQ3 hne3, hcl, va_up_self, pv_goN hP3, *]; done))

set_option maxHeartbeats 4000000 in
set_option maxRecDepth 100000 in
theorem c_X6_worn {l : Launch} {X : Gx} {S : CS} {i m : Nat → Int32} {r : Nat → Nat → Int32} {c : Nat → Int64} {n : Nat} (hN : m 1 = nI n) (h8 : n ≤ 8) {p : Int32} : Ci l X yX6_worn cX6_worn 3 (some .int) (rmk 5 115) [.ref (ga X 47), .int p] (hp X S (i, m, r, c)) (fun z g => z = ansI (S_worn n (pv m) p) ∧ ∃ W, g = hp X S (i, m, fnR (va_up r 2 W) (S_worn n (pv m) p), c)) := by
  refine ct_i (own := RX6) (lv := [some (.ref (ga X 47)), some (.int p), none]) (by decide) rfl (Nat.le_of_ble_eq_true rfl) (Nat.le_of_ble_eq_true rfl) rfl (fun C hC hR => ?_)
  have hix : ∀ P, P < n → pIx n (nI P) = some P := fun P h => pIx_nI h h8
  have hno : ∀ p, (¬ ∃ P, P < n ∧ p = nI P) → pIx n p = none := fun p h => pIx_no h8 h
  have e1 : ∀ j, goN n m j 1 = nI n := fun j => (goN_1 j).trans hN
  have main : ∀ P, P < n → p = nI P → V l X (rmk 5 115) C (hp X S (i, m, va_up r 2 m, c)) 21 [some (.ref (ga X 47)), some (.int (nI P)), some (.int (nI 0))] [] := by
    intro P hP hpe
    have hx := hix P hP
    have hP8 : P < 8 := by omega
    have loop : ∀ j, j ≤ 201 → wrn (nI P) (pv m P) = fstN (wrnB (nI P) (pv m P)) (201 - j) j → V l X (rmk 5 115) C (hp X S (i, goN n m j, va_up r 2 m, c)) 21 [some (.ref (ga X 47)), some (.int (nI P)), some (.int (nI j))] [] := by
      refine v_up 201 ?_ ?_
      · intro hI
        refine v_iload_n hC rfl dX6_worn_21 (q := 22) rfl ?_
        refine v_sipush hC (v := 200) rfl dX6_worn_22 (q := 25) rfl ?_
        refine v_icmp_gt hC dX6_worn_25 (t := 54) rfl (q := 28) rfl (fun _ => ?_) (fun h => absurd (by decide) h)
        refine v_aload_n hC rfl dX6_worn_54 (q := 55) rfl ?_
        refine v_Vv hC lkV_X6_126 c_X6_putsBack rfl (by decide) (k := 47) (by decide) hp_47 rfl rfl (Nat.le_of_ble_eq_true rfl) dX6_worn_55 (q := 58) rfl ?_
        rintro _ rfl
        rw [va_up_self]
        refine v_iload_n hC rfl dX6_worn_58 (q := 59) rfl ?_
        refine v_sipush hC (v := 200) rfl dX6_worn_59 (q := 62) rfl ?_
        refine v_icmp_le hC dX6_worn_62 (t := 74) rfl (q := 65) rfl (fun h => absurd h (by decide)) (fun _ => ?_)
        refine v_aload_n hC rfl dX6_worn_65 (q := 66) rfl ?_
        refine v_ldc hC wk_X6_36 dX6_worn_66 (q := 68) rfl ?_
        refine v_Vi hC lkV_X6_37 (c_X6_finds (n := 3) (by decide)) rfl (by decide) (k := 47) (by decide) hp_47 rfl rfl (Nat.le_of_ble_eq_true rfl) dX6_worn_68 (q := 71) rfl ?_
        rintro _ _ ⟨rfl, rfl⟩
        refine v_goto hC dX6_worn_71 (t := 75) rfl ?_
        refine hR _ _ _ _ ?_ dX6_worn_75
        have hI : wrn (nI P) (pv m P) = none := hI
        exact ⟨by simp only [S_worn, hpe, hx, hI]; rfl, m, by simp only [S_worn, hpe, hx, hI]; rfl⟩
      · intro j hj ih hI
        rw [show 201 - j = (201 - (j + 1)) + 1 by omega, fstN] at hI
        refine v_iload_n hC rfl dX6_worn_21 (q := 22) rfl ?_
        refine v_sipush hC (v := 200) rfl dX6_worn_22 (q := 25) rfl ?_
        refine v_icmp_gt hC dX6_worn_25 (t := 54) rfl (q := 28) rfl (fun h => absurd h (Int32.not_lt.mpr (nI_le (b := 200) (by omega) (by decide)))) (fun _ => ?_)
        refine v_aload_n hC rfl dX6_worn_28 (q := 29) rfl ?_
        refine v_iload_n hC rfl dX6_worn_29 (q := 30) rfl ?_
        refine v_bipush hC (v := 6) rfl dX6_worn_30 (q := 32) rfl ?_
        refine v_Vi hC lkV_X6_49 (c_X6_it (w := 6) (by first | assumption | omega) (Nat.le_of_ble_eq_true rfl)) rfl (by decide) (k := 47) (by decide) hp_47 rfl rfl (Nat.le_of_ble_eq_true rfl) dX6_worn_32 (q := 35) rfl ?_
        rintro _ _ ⟨rfl, rfl⟩
        refine v_aload_n hC rfl dX6_worn_35 (q := 36) rfl ?_
        refine v_iload_n hC rfl dX6_worn_36 (q := 37) rfl ?_
        refine v_iconst hC (v := 5) rfl dX6_worn_37 (q := 38) rfl ?_
        refine v_Vi hC lkV_X6_49 (c_X6_it (w := 5) (by first | assumption | omega) (Nat.le_of_ble_eq_true rfl)) rfl (by decide) (k := 47) (by decide) hp_47 rfl rfl (Nat.le_of_ble_eq_true rfl) dX6_worn_38 (q := 41) rfl ?_
        rintro _ _ ⟨rfl, rfl⟩
        refine v_icmp_ge hC dX6_worn_41 (t := 54) rfl (q := 44) rfl (fun h41 => ?_) (fun h41 => ?_)
        · refine v_aload_n hC rfl dX6_worn_54 (q := 55) rfl ?_
          refine v_Vv hC lkV_X6_126 c_X6_putsBack rfl (by decide) (k := 47) (by decide) hp_47 rfl rfl (Nat.le_of_ble_eq_true rfl) dX6_worn_55 (q := 58) rfl ?_
          rintro _ rfl
          rw [va_up_self]
          refine v_iload_n hC rfl dX6_worn_58 (q := 59) rfl ?_
          refine v_sipush hC (v := 200) rfl dX6_worn_59 (q := 62) rfl ?_
          refine v_icmp_le hC dX6_worn_62 (t := 74) rfl (q := 65) rfl (fun _ => ?_) (fun h => absurd (nI_le (b := 200) (by omega) (by decide)) h)
          refine v_iload_n hC rfl dX6_worn_74 (q := 75) rfl ?_
          refine hR _ _ _ _ ?_ dX6_worn_75
          rw [if_pos (by simp only [wrnB]; rw [← pv_goN hP]; simpa using h41)] at hI
          exact ⟨by simp only [S_worn, hpe, hx, hI]; rfl, m, by simp only [S_worn, hpe, hx, hI]; rfl⟩
        · refine v_aload_n hC rfl dX6_worn_44 (q := 45) rfl ?_
          refine v_Vv hC lkV_X6_102 (c_X6_goes (e1 j) h8) rfl (by decide) (k := 47) (by decide) hp_47 rfl rfl (Nat.le_of_ble_eq_true rfl) dX6_worn_45 (q := 48) rfl ?_
          rintro _ rfl
          refine v_iinc_2 hC (v := _ + 1) rfl rfl dX6_worn_48 (q := 51) rfl ?_
          refine v_goto hC dX6_worn_51 (t := 21) rfl ?_
          refine v_same rfl ?_ rfl (ih ?_)
          · simp [nI_1]
          · rw [hI, if_neg (by simp only [wrnB]; rw [← pv_goN hP]; simpa using h41)]
    exact loop 0 (by decide) (wrn_eq _ _)
  refine v_aload_n hC rfl dX6_worn_0 (q := 1) rfl ?_
  refine v_iload_n hC rfl dX6_worn_1 (q := 2) rfl ?_
  refine v_Vi hC lkV_X6_45 (c_X6_isPerson hN h8) rfl (by decide) (k := 47) (by decide) hp_47 rfl rfl (Nat.le_of_ble_eq_true rfl) dX6_worn_2 (q := 5) rfl ?_
  rintro _ _ ⟨⟨⟨P2, hP2, rfl⟩, rfl⟩ | ⟨hc2, rfl⟩, rfl⟩
  · refine v_if_ne hC dX6_worn_5 (t := 15) rfl (q := 8) rfl (fun _ => ?_) (fun h => absurd h (by decide))
    refine v_aload_n hC rfl dX6_worn_15 (q := 16) rfl ?_
    refine v_Vv hC lkV_X6_123 c_X6_thinks rfl (by decide) (k := 47) (by decide) hp_47 rfl rfl (Nat.le_of_ble_eq_true rfl) dX6_worn_16 (q := 19) rfl ?_
    rintro _ rfl
    refine v_iconst hC (v := 0) rfl dX6_worn_19 (q := 20) rfl ?_
    refine v_istore_2 hC rfl dX6_worn_20 (q := 21) rfl ?_
    exact main P2 hP2 rfl
  · refine v_if_ne hC dX6_worn_5 (t := 15) rfl (q := 8) rfl (fun h => absurd h (by decide)) (fun _ => ?_)
    refine v_aload_n hC rfl dX6_worn_8 (q := 9) rfl ?_
    refine v_ldc hC wk_X6_35 dX6_worn_9 (q := 11) rfl ?_
    refine v_Vi hC lkV_X6_37 (c_X6_finds (n := 0) (by decide)) rfl (by decide) (k := 47) (by decide) hp_47 rfl rfl (Nat.le_of_ble_eq_true rfl) dX6_worn_11 (q := 14) rfl ?_
    rintro _ _ ⟨rfl, rfl⟩
    refine hR _ _ _ _ ?_ dX6_worn_14
    (refine ⟨?_, r 2, ?_⟩ <;> (simp [S_worn, ansI, fnR, hno _ hc2, up_id]; done))

set_option maxHeartbeats 4000000 in
set_option maxRecDepth 100000 in
theorem c_X6_unseen {l : Launch} {X : Gx} {S : CS} {i m : Nat → Int32} {r : Nat → Nat → Int32} {c : Nat → Int64} {n : Nat} (hN : m 1 = nI n) (h8 : n ≤ 8) {p : Int32} : Ci l X yX6_unseen cX6_unseen 3 (some .int) (rmk 5 115) [.ref (ga X 47), .int p] (hp X S (i, m, r, c)) (fun z g => z = ansI (S_unseen n (pv m) p) ∧ ∃ W, g = hp X S (i, m, fnR (va_up r 2 W) (S_unseen n (pv m) p), c)) := by
  refine ct_i (own := RX6) (lv := [some (.ref (ga X 47)), some (.int p), none]) (by decide) rfl (Nat.le_of_ble_eq_true rfl) (Nat.le_of_ble_eq_true rfl) rfl (fun C hC hR => ?_)
  have hix : ∀ P, P < n → pIx n (nI P) = some P := fun P h => pIx_nI h h8
  have hno : ∀ p, (¬ ∃ P, P < n ∧ p = nI P) → pIx n p = none := fun p h => pIx_no h8 h
  have e1 : ∀ j, goN n m j 1 = nI n := fun j => (goN_1 j).trans hN
  have main : ∀ P, P < n → p = nI P → V l X (rmk 5 115) C (hp X S (i, m, va_up r 2 m, c)) 21 [some (.ref (ga X 47)), some (.int (nI P)), some (.int (nI 0))] [] := by
    intro P hP hpe
    have hx := hix P hP
    have hP8 : P < 8 := by omega
    have loop : ∀ j, j ≤ 201 → uns n (pv m) P = fstN (unsB n (pv m) P) (201 - j) j → V l X (rmk 5 115) C (hp X S (i, goN n m j, va_up r 2 m, c)) 21 [some (.ref (ga X 47)), some (.int (nI P)), some (.int (nI j))] [] := by
      refine v_up 201 ?_ ?_
      · intro hI
        refine v_iload_n hC rfl dX6_unseen_21 (q := 22) rfl ?_
        refine v_sipush hC (v := 200) rfl dX6_unseen_22 (q := 25) rfl ?_
        refine v_icmp_gt hC dX6_unseen_25 (t := 50) rfl (q := 28) rfl (fun _ => ?_) (fun h => absurd (by decide) h)
        refine v_aload_n hC rfl dX6_unseen_50 (q := 51) rfl ?_
        refine v_Vv hC lkV_X6_126 c_X6_putsBack rfl (by decide) (k := 47) (by decide) hp_47 rfl rfl (Nat.le_of_ble_eq_true rfl) dX6_unseen_51 (q := 54) rfl ?_
        rintro _ rfl
        rw [va_up_self]
        refine v_iload_n hC rfl dX6_unseen_54 (q := 55) rfl ?_
        refine v_sipush hC (v := 200) rfl dX6_unseen_55 (q := 58) rfl ?_
        refine v_icmp_le hC dX6_unseen_58 (t := 70) rfl (q := 61) rfl (fun h => absurd h (by decide)) (fun _ => ?_)
        refine v_aload_n hC rfl dX6_unseen_61 (q := 62) rfl ?_
        refine v_ldc hC wk_X6_36 dX6_unseen_62 (q := 64) rfl ?_
        refine v_Vi hC lkV_X6_37 (c_X6_finds (n := 3) (by decide)) rfl (by decide) (k := 47) (by decide) hp_47 rfl rfl (Nat.le_of_ble_eq_true rfl) dX6_unseen_64 (q := 67) rfl ?_
        rintro _ _ ⟨rfl, rfl⟩
        refine v_goto hC dX6_unseen_67 (t := 71) rfl ?_
        refine hR _ _ _ _ ?_ dX6_unseen_71
        have hI : uns n (pv m) P = none := hI
        exact ⟨by simp only [S_unseen, hpe, hx, hI]; rfl, m, by simp only [S_unseen, hpe, hx, hI]; rfl⟩
      · intro j hj ih hI
        rw [show 201 - j = (201 - (j + 1)) + 1 by omega, fstN] at hI
        refine v_iload_n hC rfl dX6_unseen_21 (q := 22) rfl ?_
        refine v_sipush hC (v := 200) rfl dX6_unseen_22 (q := 25) rfl ?_
        refine v_icmp_gt hC dX6_unseen_25 (t := 50) rfl (q := 28) rfl (fun h => absurd h (Int32.not_lt.mpr (nI_le (b := 200) (by omega) (by decide)))) (fun _ => ?_)
        refine v_aload_n hC rfl dX6_unseen_28 (q := 29) rfl ?_
        refine v_Vi hC lkV_X6_115 (c_X6_seen (e1 j) h8) rfl (by decide) (k := 47) (by decide) hp_47 rfl rfl (Nat.le_of_ble_eq_true rfl) dX6_unseen_29 (q := 32) rfl ?_
        rintro _ _ ⟨rfl, rfl⟩
        refine v_iload_n hC rfl dX6_unseen_32 (q := 33) rfl ?_
        refine v_ishr hC dX6_unseen_33 (q := 34) rfl ?_
        refine v_iconst hC (v := 1) rfl dX6_unseen_34 (q := 35) rfl ?_
        refine v_iand hC dX6_unseen_35 (q := 36) rfl ?_
        refine v_iconst hC (v := 1) rfl dX6_unseen_36 (q := 37) rfl ?_
        refine v_icmp_ne hC dX6_unseen_37 (t := 50) rfl (q := 40) rfl (fun h37 => ?_) (fun h37 => ?_)
        · refine v_aload_n hC rfl dX6_unseen_50 (q := 51) rfl ?_
          refine v_Vv hC lkV_X6_126 c_X6_putsBack rfl (by decide) (k := 47) (by decide) hp_47 rfl rfl (Nat.le_of_ble_eq_true rfl) dX6_unseen_51 (q := 54) rfl ?_
          rintro _ rfl
          rw [va_up_self]
          refine v_iload_n hC rfl dX6_unseen_54 (q := 55) rfl ?_
          refine v_sipush hC (v := 200) rfl dX6_unseen_55 (q := 58) rfl ?_
          refine v_icmp_le hC dX6_unseen_58 (t := 70) rfl (q := 61) rfl (fun _ => ?_) (fun h => absurd (nI_le (b := 200) (by omega) (by decide)) h)
          refine v_iload_n hC rfl dX6_unseen_70 (q := 71) rfl ?_
          refine hR _ _ _ _ ?_ dX6_unseen_71
          rw [if_pos (by simp only [unsB]; rw [seenF_congr (g' := pv (goN n m j)) n (fun q hq => (pv_goN hq j).symm)]; simpa using h37)] at hI
          exact ⟨by simp only [S_unseen, hpe, hx, hI]; rfl, m, by simp only [S_unseen, hpe, hx, hI]; rfl⟩
        · refine v_aload_n hC rfl dX6_unseen_40 (q := 41) rfl ?_
          refine v_Vv hC lkV_X6_102 (c_X6_goes (e1 j) h8) rfl (by decide) (k := 47) (by decide) hp_47 rfl rfl (Nat.le_of_ble_eq_true rfl) dX6_unseen_41 (q := 44) rfl ?_
          rintro _ rfl
          refine v_iinc_2 hC (v := _ + 1) rfl rfl dX6_unseen_44 (q := 47) rfl ?_
          refine v_goto hC dX6_unseen_47 (t := 21) rfl ?_
          refine v_same rfl ?_ rfl (ih ?_)
          · simp [nI_1]
          · rw [hI, if_neg (by simp only [unsB]; rw [seenF_congr (g' := pv (goN n m j)) n (fun q hq => (pv_goN hq j).symm)]; simpa using h37)]
    exact loop 0 (by decide) (uns_eq _ _ _)
  refine v_aload_n hC rfl dX6_unseen_0 (q := 1) rfl ?_
  refine v_iload_n hC rfl dX6_unseen_1 (q := 2) rfl ?_
  refine v_Vi hC lkV_X6_45 (c_X6_isPerson hN h8) rfl (by decide) (k := 47) (by decide) hp_47 rfl rfl (Nat.le_of_ble_eq_true rfl) dX6_unseen_2 (q := 5) rfl ?_
  rintro _ _ ⟨⟨⟨P2, hP2, rfl⟩, rfl⟩ | ⟨hc2, rfl⟩, rfl⟩
  · refine v_if_ne hC dX6_unseen_5 (t := 15) rfl (q := 8) rfl (fun _ => ?_) (fun h => absurd h (by decide))
    refine v_aload_n hC rfl dX6_unseen_15 (q := 16) rfl ?_
    refine v_Vv hC lkV_X6_123 c_X6_thinks rfl (by decide) (k := 47) (by decide) hp_47 rfl rfl (Nat.le_of_ble_eq_true rfl) dX6_unseen_16 (q := 19) rfl ?_
    rintro _ rfl
    refine v_iconst hC (v := 0) rfl dX6_unseen_19 (q := 20) rfl ?_
    refine v_istore_2 hC rfl dX6_unseen_20 (q := 21) rfl ?_
    exact main P2 hP2 rfl
  · refine v_if_ne hC dX6_unseen_5 (t := 15) rfl (q := 8) rfl (fun h => absurd h (by decide)) (fun _ => ?_)
    refine v_aload_n hC rfl dX6_unseen_8 (q := 9) rfl ?_
    refine v_ldc hC wk_X6_35 dX6_unseen_9 (q := 11) rfl ?_
    refine v_Vi hC lkV_X6_37 (c_X6_finds (n := 0) (by decide)) rfl (by decide) (k := 47) (by decide) hp_47 rfl rfl (Nat.le_of_ble_eq_true rfl) dX6_unseen_11 (q := 14) rfl ?_
    rintro _ _ ⟨rfl, rfl⟩
    refine hR _ _ _ _ ?_ dX6_unseen_14
    (refine ⟨?_, r 2, ?_⟩ <;> (simp [S_unseen, ansI, fnR, hno _ hc2, up_id]; done))

set_option maxHeartbeats 4000000 in
set_option maxRecDepth 100000 in
theorem c_X6_borrow {l : Launch} {X : Gx} {S : CS} {i m : Nat → Int32} {r : Nat → Nat → Int32} {c : Nat → Int64} {n : Nat} (hN : m 1 = nI n) (h8 : n ≤ 8) {p : Int32} : Ci l X yX6_borrow cX6_borrow 7 (some .int) (rmk 6 137) [.ref (ga X 47), .int p] (hp X S (i, m, r, c)) (fun z g => z = ansI (S_borrow n (pv m) p) ∧ ∃ W, g = hp X S (i, m, fnR (va_up r 2 W) (S_borrow n (pv m) p), c)) := by
  refine ct_i (own := RX6) (lv := [some (.ref (ga X 47)), some (.int p), none, none, none, none, none]) (by decide) rfl (Nat.le_of_ble_eq_true rfl) (Nat.le_of_ble_eq_true rfl) rfl (fun C hC hR => ?_)
  have hix : ∀ P, P < n → pIx n (nI P) = some P := fun P h => pIx_nI h h8
  have hno : ∀ p, (¬ ∃ P, P < n ∧ p = nI P) → pIx n p = none := fun p h => pIx_no h8 h
  have main : ∀ P, P < n → p = nI P → V l X (rmk 6 137) C (hp X S (i, m, va_up r 2 m, c)) 30 [some (.ref (ga X 47)), some (.int (nI P)), some (.int (enS (bstF (fun o => easN (nI P) (vsw (pv m P) (pv m o))) (fun o => decide (¬ o = P)) (easN (nI P) (pv m P)) 0).1)), some (.int (m1N (bstF (fun o => easN (nI P) (vsw (pv m P) (pv m o))) (fun o => decide (¬ o = P)) (easN (nI P) (pv m P)) 0).2)), some (.int (nI 0)), none, none] [] := by
    intro P hP hpe
    have hx := hix P hP
    have hP8 : P < 8 := by omega
    have hs : ∀ o, (bstF (fun o => easN (nI P) (vsw (pv m P) (pv m o))) (fun o => decide (¬ o = P)) (easN (nI P) (pv m P)) o).1 ≤ 201 := bst_le (by first | exact easN_le | decide) (fun _ => easN_le)
    have hb : ∀ k, (bstF (fun o => easN (nI P) (vsw (pv m P) (pv m o))) (fun o => decide (¬ o = P)) (easN (nI P) (pv m P)) n).2 = some k → k < 1000 := fun k h => by have := bst_lt _ _ h; omega
    have loop : ∀ j, j ≤ n → V l X (rmk 6 137) C (hp X S (i, m, va_up r 2 m, c)) 30 [some (.ref (ga X 47)), some (.int (nI P)), some (.int (enS (bstF (fun o => easN (nI P) (vsw (pv m P) (pv m o))) (fun o => decide (¬ o = P)) (easN (nI P) (pv m P)) j).1)), some (.int (m1N (bstF (fun o => easN (nI P) (vsw (pv m P) (pv m o))) (fun o => decide (¬ o = P)) (easN (nI P) (pv m P)) j).2)), some (.int (nI j)), none, none] [] := by
      refine v_up n ?_ ?_
      · refine v_iload hC rfl dX6_borrow_30 (q := 32) rfl ?_
        refine v_aload_n hC rfl dX6_borrow_32 (q := 33) rfl ?_
        refine v_get hC fl_X6_9 (k := 47) (by decide) hp_47 rfl dX6_borrow_33 (q := 36) rfl ?_
        refine v_iconst hC (v := 1) rfl dX6_borrow_36 (q := 37) rfl ?_
        refine v_iald hC (k := 48) (by decide) hp_48 (vp_l (by decide)) (j := 1) rfl dX6_borrow_37 (q := 38) rfl ?_
        refine v_icmp_ge hC dX6_borrow_38 (t := 113) rfl (q := 41) rfl (fun _ => ?_) (fun h => absurd (by rw [hN]; exact Int32.le_refl _) h)
        refine v_aload_n hC rfl dX6_borrow_113 (q := 114) rfl ?_
        refine v_iload_n hC rfl dX6_borrow_114 (q := 115) rfl ?_
        refine v_Vi hC lkV_X6_132 (c_X6_orNone hb) rfl (by decide) (k := 47) (by decide) hp_47 rfl rfl (Nat.le_of_ble_eq_true rfl) dX6_borrow_115 (q := 118) rfl ?_
        rintro _ _ ⟨rfl, rfl⟩
        refine hR _ _ _ _ ?_ dX6_borrow_118
        exact ⟨by simp only [S_borrow, hpe, hx], m, by simp only [S_borrow, hpe, hx]⟩
      · intro j hj ih
        have hj8 : j < 8 := by omega
        refine v_iload hC rfl dX6_borrow_30 (q := 32) rfl ?_
        refine v_aload_n hC rfl dX6_borrow_32 (q := 33) rfl ?_
        refine v_get hC fl_X6_9 (k := 47) (by decide) hp_47 rfl dX6_borrow_33 (q := 36) rfl ?_
        refine v_iconst hC (v := 1) rfl dX6_borrow_36 (q := 37) rfl ?_
        refine v_iald hC (k := 48) (by decide) hp_48 (vp_l (by decide)) (j := 1) rfl dX6_borrow_37 (q := 38) rfl ?_
        refine v_icmp_ge hC dX6_borrow_38 (t := 113) rfl (q := 41) rfl (fun h => absurd h (by rw [hN]; exact nI_ge hj (by omega))) (fun _ => ?_)
        refine v_iload hC rfl dX6_borrow_41 (q := 43) rfl ?_
        refine v_iload_n hC rfl dX6_borrow_43 (q := 44) rfl ?_
        refine v_icmp_eq hC dX6_borrow_44 (t := 107) rfl (q := 47) rfl (fun h44 => ?_) (fun h44 => ?_)
        · refine v_iinc_4 hC (v := _ + 1) rfl rfl dX6_borrow_107 (q := 110) rfl ?_
          refine v_goto hC dX6_borrow_110 (t := 30) rfl ?_
          refine v_weak (lv' := [some (.ref (ga X 47)), some (.int (nI P)), some (.int (enS (bstF (fun o => easN (nI P) (vsw (pv m P) (pv m o))) (fun o => decide (¬ o = P)) (easN (nI P) (pv m P)) j).1)), some (.int (m1N (bstF (fun o => easN (nI P) (vsw (pv m P) (pv m o))) (fun o => decide (¬ o = P)) (easN (nI P) (pv m P)) j).2)), some (.int (nI j + 1)), none, none]) ⟨rfl, rfl, rfl, rfl, rfl, trivial⟩ ?_
          refine v_same rfl ?_ rfl ih
          rw [bst_keep (by rintro ⟨z, -⟩; have := of_decide_eq_true z; exact this ((nI_eq (by omega) (by omega)).mp h44))]
          simp [nI_1]
        · refine v_aload_n hC rfl dX6_borrow_47 (q := 48) rfl ?_
          refine v_iload_n hC rfl dX6_borrow_48 (q := 49) rfl ?_
          refine v_iload hC rfl dX6_borrow_49 (q := 51) rfl ?_
          refine v_Vv hC lkV_X6_95 (c_X6_lends (by omega) (by omega)) rfl (by decide) (k := 47) (by decide) hp_47 rfl rfl (Nat.le_of_ble_eq_true rfl) dX6_borrow_51 (q := 54) rfl ?_
          rintro _ rfl
          refine v_aload_n hC rfl dX6_borrow_54 (q := 55) rfl ?_
          refine v_iload_n hC rfl dX6_borrow_55 (q := 56) rfl ?_
          refine v_Vi hC lkV_X6_129 (c_X6_easedIn (m := swap3 m P j) (swap3_1.trans hN) h8 hP) rfl (by decide) (k := 47) (by decide) hp_47 rfl rfl (Nat.le_of_ble_eq_true rfl) dX6_borrow_56 (q := 59) rfl ?_
          rintro _ _ ⟨rfl, rfl⟩
          rw [va_up_self, pv_swap3 (fun z => h44 (by rw [z])), m1N_eas]
          refine v_istore_5 hC rfl dX6_borrow_59 (q := 61) rfl ?_
          refine v_iload hC rfl dX6_borrow_61 (q := 63) rfl ?_
          refine v_if_lt hC dX6_borrow_63 (t := 80) rfl (q := 66) rfl (fun h63 => ?_) (fun h63 => ?_)
          · refine v_iconst hC (v := 0) rfl dX6_borrow_80 (q := 81) rfl ?_
            refine v_istore_6 hC rfl dX6_borrow_81 (q := 83) rfl ?_
            refine v_iload hC rfl dX6_borrow_83 (q := 85) rfl ?_
            refine v_if_eq hC dX6_borrow_85 (t := 93) rfl (q := 88) rfl (fun _ => ?_) (fun h => absurd h (by decide))
            refine v_iload_n hC rfl dX6_borrow_93 (q := 94) rfl ?_
            refine v_istore_3 hC rfl dX6_borrow_94 (q := 95) rfl ?_
            refine v_iload hC rfl dX6_borrow_95 (q := 97) rfl ?_
            refine v_if_eq hC dX6_borrow_97 (t := 105) rfl (q := 100) rfl (fun _ => ?_) (fun h => absurd h (by decide))
            refine v_iload_n hC rfl dX6_borrow_105 (q := 106) rfl ?_
            refine v_istore_2 hC rfl dX6_borrow_106 (q := 107) rfl ?_
            refine v_iinc_4 hC (v := _ + 1) rfl rfl dX6_borrow_107 (q := 110) rfl ?_
            refine v_goto hC dX6_borrow_110 (t := 30) rfl ?_
            refine v_weak (lv' := [some (.ref (ga X 47)), some (.int (nI P)), some (.int (enS (bstF (fun o => easN (nI P) (vsw (pv m P) (pv m o))) (fun o => decide (¬ o = P)) (easN (nI P) (pv m P)) j).1)), some (.int (m1N (bstF (fun o => easN (nI P) (vsw (pv m P) (pv m o))) (fun o => decide (¬ o = P)) (easN (nI P) (pv m P)) j).2)), some (.int (nI j + 1)), none, none]) ⟨rfl, rfl, rfl, rfl, rfl, trivial⟩ ?_
            refine v_same rfl ?_ rfl ih
            rw [bst_keep (by rintro ⟨-, z⟩; exact ((isb easN_le (hs j)).mpr z).1 h63)]
            simp [nI_1]
          · refine v_iload_n hC rfl dX6_borrow_66 (q := 67) rfl ?_
            refine v_if_lt hC dX6_borrow_67 (t := 76) rfl (q := 70) rfl (fun h67 => ?_) (fun h67 => ?_)
            · refine v_iconst hC (v := 1) rfl dX6_borrow_76 (q := 77) rfl ?_
              refine v_goto hC dX6_borrow_77 (t := 81) rfl ?_
              refine v_istore_6 hC rfl dX6_borrow_81 (q := 83) rfl ?_
              refine v_iload hC rfl dX6_borrow_83 (q := 85) rfl ?_
              refine v_if_eq hC dX6_borrow_85 (t := 93) rfl (q := 88) rfl (fun h => absurd h (by decide)) (fun _ => ?_)
              refine v_iload hC rfl dX6_borrow_88 (q := 90) rfl ?_
              refine v_goto hC dX6_borrow_90 (t := 94) rfl ?_
              refine v_istore_3 hC rfl dX6_borrow_94 (q := 95) rfl ?_
              refine v_iload hC rfl dX6_borrow_95 (q := 97) rfl ?_
              refine v_if_eq hC dX6_borrow_97 (t := 105) rfl (q := 100) rfl (fun h => absurd h (by decide)) (fun _ => ?_)
              refine v_iload hC rfl dX6_borrow_100 (q := 102) rfl ?_
              refine v_goto hC dX6_borrow_102 (t := 106) rfl ?_
              refine v_istore_2 hC rfl dX6_borrow_106 (q := 107) rfl ?_
              refine v_iinc_4 hC (v := _ + 1) rfl rfl dX6_borrow_107 (q := 110) rfl ?_
              refine v_goto hC dX6_borrow_110 (t := 30) rfl ?_
              have hk := (isb easN_le (hs j)).mp ⟨h63, Or.inl h67⟩
              refine v_weak (lv' := [some (.ref (ga X 47)), some (.int (nI P)), some (.int (enS ((fun o => easN (nI P) (vsw (pv m P) (pv m o))) j))), some (.int (nI j)), some (.int (nI j + 1)), none, none]) ⟨rfl, rfl, rfl, rfl, rfl, trivial⟩ ?_
              refine v_same rfl ?_ rfl ih
              rw [bst_take (by simp only [decide_eq_true_eq]; exact fun z => h44 (by rw [z])) hk]
              simp [nI_1, m1N]
            · refine v_iload hC rfl dX6_borrow_70 (q := 72) rfl ?_
              refine v_iload_n hC rfl dX6_borrow_72 (q := 73) rfl ?_
              refine v_icmp_ge hC dX6_borrow_73 (t := 80) rfl (q := 76) rfl (fun h73 => ?_) (fun h73 => ?_)
              · refine v_iconst hC (v := 0) rfl dX6_borrow_80 (q := 81) rfl ?_
                refine v_istore_6 hC rfl dX6_borrow_81 (q := 83) rfl ?_
                refine v_iload hC rfl dX6_borrow_83 (q := 85) rfl ?_
                refine v_if_eq hC dX6_borrow_85 (t := 93) rfl (q := 88) rfl (fun _ => ?_) (fun h => absurd h (by decide))
                refine v_iload_n hC rfl dX6_borrow_93 (q := 94) rfl ?_
                refine v_istore_3 hC rfl dX6_borrow_94 (q := 95) rfl ?_
                refine v_iload hC rfl dX6_borrow_95 (q := 97) rfl ?_
                refine v_if_eq hC dX6_borrow_97 (t := 105) rfl (q := 100) rfl (fun _ => ?_) (fun h => absurd h (by decide))
                refine v_iload_n hC rfl dX6_borrow_105 (q := 106) rfl ?_
                refine v_istore_2 hC rfl dX6_borrow_106 (q := 107) rfl ?_
                refine v_iinc_4 hC (v := _ + 1) rfl rfl dX6_borrow_107 (q := 110) rfl ?_
                refine v_goto hC dX6_borrow_110 (t := 30) rfl ?_
                refine v_weak (lv' := [some (.ref (ga X 47)), some (.int (nI P)), some (.int (enS (bstF (fun o => easN (nI P) (vsw (pv m P) (pv m o))) (fun o => decide (¬ o = P)) (easN (nI P) (pv m P)) j).1)), some (.int (m1N (bstF (fun o => easN (nI P) (vsw (pv m P) (pv m o))) (fun o => decide (¬ o = P)) (easN (nI P) (pv m P)) j).2)), some (.int (nI j + 1)), none, none]) ⟨rfl, rfl, rfl, rfl, rfl, trivial⟩ ?_
                refine v_same rfl ?_ rfl ih
                rw [bst_keep (by rintro ⟨-, z⟩; rcases ((isb easN_le (hs j)).mpr z).2 with y | y; exact h67 y; exact Int32.not_lt.mpr h73 y)]
                simp [nI_1]
              · refine v_iconst hC (v := 1) rfl dX6_borrow_76 (q := 77) rfl ?_
                refine v_goto hC dX6_borrow_77 (t := 81) rfl ?_
                refine v_istore_6 hC rfl dX6_borrow_81 (q := 83) rfl ?_
                refine v_iload hC rfl dX6_borrow_83 (q := 85) rfl ?_
                refine v_if_eq hC dX6_borrow_85 (t := 93) rfl (q := 88) rfl (fun h => absurd h (by decide)) (fun _ => ?_)
                refine v_iload hC rfl dX6_borrow_88 (q := 90) rfl ?_
                refine v_goto hC dX6_borrow_90 (t := 94) rfl ?_
                refine v_istore_3 hC rfl dX6_borrow_94 (q := 95) rfl ?_
                refine v_iload hC rfl dX6_borrow_95 (q := 97) rfl ?_
                refine v_if_eq hC dX6_borrow_97 (t := 105) rfl (q := 100) rfl (fun h => absurd h (by decide)) (fun _ => ?_)
                refine v_iload hC rfl dX6_borrow_100 (q := 102) rfl ?_
                refine v_goto hC dX6_borrow_102 (t := 106) rfl ?_
                refine v_istore_2 hC rfl dX6_borrow_106 (q := 107) rfl ?_
                refine v_iinc_4 hC (v := _ + 1) rfl rfl dX6_borrow_107 (q := 110) rfl ?_
                refine v_goto hC dX6_borrow_110 (t := 30) rfl ?_
                have hk := (isb easN_le (hs j)).mp ⟨h63, Or.inr (Int32.not_le.mp h73)⟩
                refine v_weak (lv' := [some (.ref (ga X 47)), some (.int (nI P)), some (.int (enS ((fun o => easN (nI P) (vsw (pv m P) (pv m o))) j))), some (.int (nI j)), some (.int (nI j + 1)), none, none]) ⟨rfl, rfl, rfl, rfl, rfl, trivial⟩ ?_
                refine v_same rfl ?_ rfl ih
                rw [bst_take (by simp only [decide_eq_true_eq]; exact fun z => h44 (by rw [z])) hk]
                simp [nI_1, m1N]
    exact loop 0 (Nat.zero_le _)
  refine v_aload_n hC rfl dX6_borrow_0 (q := 1) rfl ?_
  refine v_iload_n hC rfl dX6_borrow_1 (q := 2) rfl ?_
  refine v_Vi hC lkV_X6_45 (c_X6_isPerson hN h8) rfl (by decide) (k := 47) (by decide) hp_47 rfl rfl (Nat.le_of_ble_eq_true rfl) dX6_borrow_2 (q := 5) rfl ?_
  rintro _ _ ⟨⟨⟨P2, hP2, rfl⟩, rfl⟩ | ⟨hc2, rfl⟩, rfl⟩
  · refine v_if_ne hC dX6_borrow_5 (t := 15) rfl (q := 8) rfl (fun _ => ?_) (fun h => absurd h (by decide))
    refine v_aload_n hC rfl dX6_borrow_15 (q := 16) rfl ?_
    refine v_Vv hC lkV_X6_123 c_X6_thinks rfl (by decide) (k := 47) (by decide) hp_47 rfl rfl (Nat.le_of_ble_eq_true rfl) dX6_borrow_16 (q := 19) rfl ?_
    rintro _ rfl
    refine v_aload_n hC rfl dX6_borrow_19 (q := 20) rfl ?_
    refine v_iload_n hC rfl dX6_borrow_20 (q := 21) rfl ?_
    refine v_Vi hC lkV_X6_129 (c_X6_easedIn hN h8 (by assumption)) rfl (by decide) (k := 47) (by decide) hp_47 rfl rfl (Nat.le_of_ble_eq_true rfl) dX6_borrow_21 (q := 24) rfl ?_
    rintro _ _ ⟨rfl, rfl⟩
    rw [va_up_self, m1N_eas]
    refine v_istore_2 hC rfl dX6_borrow_24 (q := 25) rfl ?_
    refine v_iconst hC (v := (-1)) rfl dX6_borrow_25 (q := 26) rfl ?_
    refine v_istore_3 hC rfl dX6_borrow_26 (q := 27) rfl ?_
    refine v_iconst hC (v := 0) rfl dX6_borrow_27 (q := 28) rfl ?_
    refine v_istore_4 hC rfl dX6_borrow_28 (q := 30) rfl ?_
    exact main P2 hP2 rfl
  · refine v_if_ne hC dX6_borrow_5 (t := 15) rfl (q := 8) rfl (fun h => absurd h (by decide)) (fun _ => ?_)
    refine v_aload_n hC rfl dX6_borrow_8 (q := 9) rfl ?_
    refine v_ldc hC wk_X6_35 dX6_borrow_9 (q := 11) rfl ?_
    refine v_Vi hC lkV_X6_37 (c_X6_finds (n := 0) (by decide)) rfl (by decide) (k := 47) (by decide) hp_47 rfl rfl (Nat.le_of_ble_eq_true rfl) dX6_borrow_11 (q := 14) rfl ?_
    rintro _ _ ⟨rfl, rfl⟩
    refine hR _ _ _ _ ?_ dX6_borrow_14
    (refine ⟨?_, r 2, ?_⟩ <;> (simp [S_borrow, ansI, fnR, hno _ hc2, up_id]; done))

set_option maxHeartbeats 4000000 in
set_option maxRecDepth 100000 in
theorem c_X6_kind {l : Launch} {X : Gx} {S : CS} {i m : Nat → Int32} {r : Nat → Nat → Int32} {c : Nat → Int64} {n : Nat} (hN : m 1 = nI n) (h8 : n ≤ 8) {p : Int32} : Ci l X yX6_kind cX6_kind 7 (some .int) (rmk 6 137) [.ref (ga X 47), .int p] (hp X S (i, m, r, c)) (fun z g => z = ansI (S_kind n (pv m) p) ∧ ∃ W, g = hp X S (i, m, fnR (va_up r 2 W) (S_kind n (pv m) p), c)) := by
  refine ct_i (own := RX6) (lv := [some (.ref (ga X 47)), some (.int p), none, none, none, none, none]) (by decide) rfl (Nat.le_of_ble_eq_true rfl) (Nat.le_of_ble_eq_true rfl) rfl (fun C hC hR => ?_)
  have hix : ∀ P, P < n → pIx n (nI P) = some P := fun P h => pIx_nI h h8
  have hno : ∀ p, (¬ ∃ P, P < n ∧ p = nI P) → pIx n p = none := fun p h => pIx_no h8 h
  have main : ∀ P, P < n → p = nI P → V l X (rmk 6 137) C (hp X S (i, m, va_up r 2 m, c)) 26 [some (.ref (ga X 47)), some (.int (nI P)), some (.int (enS (bstF (fun o => easN (nI P) (upd (pv m P) 0 (nI o))) (fun _ => true) (201) 0).1)), some (.int (m1N (bstF (fun o => easN (nI P) (upd (pv m P) 0 (nI o))) (fun _ => true) (201) 0).2)), some (.int (nI 0)), none, none] [] := by
    intro P hP hpe
    have hx := hix P hP
    have hP8 : P < 8 := by omega
    have hs : ∀ o, (bstF (fun o => easN (nI P) (upd (pv m P) 0 (nI o))) (fun _ => true) (201) o).1 ≤ 201 := bst_le (by first | exact easN_le | decide) (fun _ => easN_le)
    have hb : ∀ k, (bstF (fun o => easN (nI P) (upd (pv m P) 0 (nI o))) (fun _ => true) (201) 6).2 = some k → k < 1000 := fun k h => by have := bst_lt _ _ h; omega
    have loop : ∀ j, j ≤ 6 → V l X (rmk 6 137) C (hp X S (i, m, va_up r 2 m, c)) 26 [some (.ref (ga X 47)), some (.int (nI P)), some (.int (enS (bstF (fun o => easN (nI P) (upd (pv m P) 0 (nI o))) (fun _ => true) (201) j).1)), some (.int (m1N (bstF (fun o => easN (nI P) (upd (pv m P) 0 (nI o))) (fun _ => true) (201) j).2)), some (.int (nI j)), none, none] [] := by
      refine v_up 6 ?_ ?_
      · refine v_iload hC rfl dX6_kind_26 (q := 28) rfl ?_
        refine v_iconst hC (v := 5) rfl dX6_kind_28 (q := 29) rfl ?_
        refine v_icmp_gt hC dX6_kind_29 (t := 99) rfl (q := 32) rfl (fun _ => ?_) (fun h => absurd (by decide) h)
        refine v_aload_n hC rfl dX6_kind_99 (q := 100) rfl ?_
        refine v_iload_n hC rfl dX6_kind_100 (q := 101) rfl ?_
        refine v_Vi hC lkV_X6_132 (c_X6_orNone hb) rfl (by decide) (k := 47) (by decide) hp_47 rfl rfl (Nat.le_of_ble_eq_true rfl) dX6_kind_101 (q := 104) rfl ?_
        rintro _ _ ⟨rfl, rfl⟩
        refine hR _ _ _ _ ?_ dX6_kind_104
        exact ⟨by simp only [S_kind, hpe, hx, knd_eq], m, by simp only [S_kind, hpe, hx, knd_eq]⟩
      · intro j hj ih
        have hj8 : j < 8 := by omega
        refine v_iload hC rfl dX6_kind_26 (q := 28) rfl ?_
        refine v_iconst hC (v := 5) rfl dX6_kind_28 (q := 29) rfl ?_
        refine v_icmp_gt hC dX6_kind_29 (t := 99) rfl (q := 32) rfl (fun h => absurd h (Int32.not_lt.mpr (nI_le (b := 5) (by omega) (by decide)))) (fun _ => ?_)
        refine v_aload_n hC rfl dX6_kind_32 (q := 33) rfl ?_
        refine v_iload_n hC rfl dX6_kind_33 (q := 34) rfl ?_
        refine v_iconst hC (v := 0) rfl dX6_kind_34 (q := 35) rfl ?_
        refine v_iload hC rfl dX6_kind_35 (q := 37) rfl ?_
        refine v_Vv hC lkV_X6_63 (c_X6_put (w := 0) (by first | assumption | omega) (Nat.le_of_ble_eq_true rfl)) rfl (by decide) (k := 47) (by decide) hp_47 rfl rfl (Nat.le_of_ble_eq_true rfl) dX6_kind_37 (q := 40) rfl ?_
        rintro _ rfl
        refine v_aload_n hC rfl dX6_kind_40 (q := 41) rfl ?_
        refine v_iload_n hC rfl dX6_kind_41 (q := 42) rfl ?_
        refine v_Vi hC lkV_X6_129 (c_X6_easedIn (m := pu m P 0 (nI j)) (pu_1.trans hN) h8 hP) rfl (by decide) (k := 47) (by decide) hp_47 rfl rfl (Nat.le_of_ble_eq_true rfl) dX6_kind_42 (q := 45) rfl ?_
        rintro _ _ ⟨rfl, rfl⟩
        rw [va_up_self, pv_pu (by decide), m1N_eas]
        refine v_istore_5 hC rfl dX6_kind_45 (q := 47) rfl ?_
        refine v_iload hC rfl dX6_kind_47 (q := 49) rfl ?_
        refine v_if_lt hC dX6_kind_49 (t := 66) rfl (q := 52) rfl (fun h49 => ?_) (fun h49 => ?_)
        · refine v_iconst hC (v := 0) rfl dX6_kind_66 (q := 67) rfl ?_
          refine v_istore_6 hC rfl dX6_kind_67 (q := 69) rfl ?_
          refine v_iload hC rfl dX6_kind_69 (q := 71) rfl ?_
          refine v_if_eq hC dX6_kind_71 (t := 79) rfl (q := 74) rfl (fun _ => ?_) (fun h => absurd h (by decide))
          refine v_iload_n hC rfl dX6_kind_79 (q := 80) rfl ?_
          refine v_istore_3 hC rfl dX6_kind_80 (q := 81) rfl ?_
          refine v_iload hC rfl dX6_kind_81 (q := 83) rfl ?_
          refine v_if_eq hC dX6_kind_83 (t := 91) rfl (q := 86) rfl (fun _ => ?_) (fun h => absurd h (by decide))
          refine v_iload_n hC rfl dX6_kind_91 (q := 92) rfl ?_
          refine v_istore_2 hC rfl dX6_kind_92 (q := 93) rfl ?_
          refine v_iinc_4 hC (v := _ + 1) rfl rfl dX6_kind_93 (q := 96) rfl ?_
          refine v_goto hC dX6_kind_96 (t := 26) rfl ?_
          refine v_weak (lv' := [some (.ref (ga X 47)), some (.int (nI P)), some (.int (enS (bstF (fun o => easN (nI P) (upd (pv m P) 0 (nI o))) (fun _ => true) (201) j).1)), some (.int (m1N (bstF (fun o => easN (nI P) (upd (pv m P) 0 (nI o))) (fun _ => true) (201) j).2)), some (.int (nI j + 1)), none, none]) ⟨rfl, rfl, rfl, rfl, rfl, trivial⟩ ?_
          refine v_same rfl ?_ rfl ih
          rw [bst_keep (by rintro ⟨-, z⟩; exact ((isb easN_le (hs j)).mpr z).1 h49)]
          simp [nI_1]
        · refine v_iload_n hC rfl dX6_kind_52 (q := 53) rfl ?_
          refine v_if_lt hC dX6_kind_53 (t := 62) rfl (q := 56) rfl (fun h53 => ?_) (fun h53 => ?_)
          · refine v_iconst hC (v := 1) rfl dX6_kind_62 (q := 63) rfl ?_
            refine v_goto hC dX6_kind_63 (t := 67) rfl ?_
            refine v_istore_6 hC rfl dX6_kind_67 (q := 69) rfl ?_
            refine v_iload hC rfl dX6_kind_69 (q := 71) rfl ?_
            refine v_if_eq hC dX6_kind_71 (t := 79) rfl (q := 74) rfl (fun h => absurd h (by decide)) (fun _ => ?_)
            refine v_iload hC rfl dX6_kind_74 (q := 76) rfl ?_
            refine v_goto hC dX6_kind_76 (t := 80) rfl ?_
            refine v_istore_3 hC rfl dX6_kind_80 (q := 81) rfl ?_
            refine v_iload hC rfl dX6_kind_81 (q := 83) rfl ?_
            refine v_if_eq hC dX6_kind_83 (t := 91) rfl (q := 86) rfl (fun h => absurd h (by decide)) (fun _ => ?_)
            refine v_iload hC rfl dX6_kind_86 (q := 88) rfl ?_
            refine v_goto hC dX6_kind_88 (t := 92) rfl ?_
            refine v_istore_2 hC rfl dX6_kind_92 (q := 93) rfl ?_
            refine v_iinc_4 hC (v := _ + 1) rfl rfl dX6_kind_93 (q := 96) rfl ?_
            refine v_goto hC dX6_kind_96 (t := 26) rfl ?_
            have hk := (isb easN_le (hs j)).mp ⟨h49, Or.inl h53⟩
            refine v_weak (lv' := [some (.ref (ga X 47)), some (.int (nI P)), some (.int (enS ((fun o => easN (nI P) (upd (pv m P) 0 (nI o))) j))), some (.int (nI j)), some (.int (nI j + 1)), none, none]) ⟨rfl, rfl, rfl, rfl, rfl, trivial⟩ ?_
            refine v_same rfl ?_ rfl ih
            rw [bst_take rfl hk]
            simp [nI_1, m1N]
          · refine v_iload hC rfl dX6_kind_56 (q := 58) rfl ?_
            refine v_iload_n hC rfl dX6_kind_58 (q := 59) rfl ?_
            refine v_icmp_ge hC dX6_kind_59 (t := 66) rfl (q := 62) rfl (fun h59 => ?_) (fun h59 => ?_)
            · refine v_iconst hC (v := 0) rfl dX6_kind_66 (q := 67) rfl ?_
              refine v_istore_6 hC rfl dX6_kind_67 (q := 69) rfl ?_
              refine v_iload hC rfl dX6_kind_69 (q := 71) rfl ?_
              refine v_if_eq hC dX6_kind_71 (t := 79) rfl (q := 74) rfl (fun _ => ?_) (fun h => absurd h (by decide))
              refine v_iload_n hC rfl dX6_kind_79 (q := 80) rfl ?_
              refine v_istore_3 hC rfl dX6_kind_80 (q := 81) rfl ?_
              refine v_iload hC rfl dX6_kind_81 (q := 83) rfl ?_
              refine v_if_eq hC dX6_kind_83 (t := 91) rfl (q := 86) rfl (fun _ => ?_) (fun h => absurd h (by decide))
              refine v_iload_n hC rfl dX6_kind_91 (q := 92) rfl ?_
              refine v_istore_2 hC rfl dX6_kind_92 (q := 93) rfl ?_
              refine v_iinc_4 hC (v := _ + 1) rfl rfl dX6_kind_93 (q := 96) rfl ?_
              refine v_goto hC dX6_kind_96 (t := 26) rfl ?_
              refine v_weak (lv' := [some (.ref (ga X 47)), some (.int (nI P)), some (.int (enS (bstF (fun o => easN (nI P) (upd (pv m P) 0 (nI o))) (fun _ => true) (201) j).1)), some (.int (m1N (bstF (fun o => easN (nI P) (upd (pv m P) 0 (nI o))) (fun _ => true) (201) j).2)), some (.int (nI j + 1)), none, none]) ⟨rfl, rfl, rfl, rfl, rfl, trivial⟩ ?_
              refine v_same rfl ?_ rfl ih
              rw [bst_keep (by rintro ⟨-, z⟩; rcases ((isb easN_le (hs j)).mpr z).2 with y | y; exact h53 y; exact Int32.not_lt.mpr h59 y)]
              simp [nI_1]
            · refine v_iconst hC (v := 1) rfl dX6_kind_62 (q := 63) rfl ?_
              refine v_goto hC dX6_kind_63 (t := 67) rfl ?_
              refine v_istore_6 hC rfl dX6_kind_67 (q := 69) rfl ?_
              refine v_iload hC rfl dX6_kind_69 (q := 71) rfl ?_
              refine v_if_eq hC dX6_kind_71 (t := 79) rfl (q := 74) rfl (fun h => absurd h (by decide)) (fun _ => ?_)
              refine v_iload hC rfl dX6_kind_74 (q := 76) rfl ?_
              refine v_goto hC dX6_kind_76 (t := 80) rfl ?_
              refine v_istore_3 hC rfl dX6_kind_80 (q := 81) rfl ?_
              refine v_iload hC rfl dX6_kind_81 (q := 83) rfl ?_
              refine v_if_eq hC dX6_kind_83 (t := 91) rfl (q := 86) rfl (fun h => absurd h (by decide)) (fun _ => ?_)
              refine v_iload hC rfl dX6_kind_86 (q := 88) rfl ?_
              refine v_goto hC dX6_kind_88 (t := 92) rfl ?_
              refine v_istore_2 hC rfl dX6_kind_92 (q := 93) rfl ?_
              refine v_iinc_4 hC (v := _ + 1) rfl rfl dX6_kind_93 (q := 96) rfl ?_
              refine v_goto hC dX6_kind_96 (t := 26) rfl ?_
              have hk := (isb easN_le (hs j)).mp ⟨h49, Or.inr (Int32.not_le.mp h59)⟩
              refine v_weak (lv' := [some (.ref (ga X 47)), some (.int (nI P)), some (.int (enS ((fun o => easN (nI P) (upd (pv m P) 0 (nI o))) j))), some (.int (nI j)), some (.int (nI j + 1)), none, none]) ⟨rfl, rfl, rfl, rfl, rfl, trivial⟩ ?_
              refine v_same rfl ?_ rfl ih
              rw [bst_take rfl hk]
              simp [nI_1, m1N]
    exact loop 0 (Nat.zero_le _)
  refine v_aload_n hC rfl dX6_kind_0 (q := 1) rfl ?_
  refine v_iload_n hC rfl dX6_kind_1 (q := 2) rfl ?_
  refine v_Vi hC lkV_X6_45 (c_X6_isPerson hN h8) rfl (by decide) (k := 47) (by decide) hp_47 rfl rfl (Nat.le_of_ble_eq_true rfl) dX6_kind_2 (q := 5) rfl ?_
  rintro _ _ ⟨⟨⟨P2, hP2, rfl⟩, rfl⟩ | ⟨hc2, rfl⟩, rfl⟩
  · refine v_if_ne hC dX6_kind_5 (t := 15) rfl (q := 8) rfl (fun _ => ?_) (fun h => absurd h (by decide))
    refine v_aload_n hC rfl dX6_kind_15 (q := 16) rfl ?_
    refine v_Vv hC lkV_X6_123 c_X6_thinks rfl (by decide) (k := 47) (by decide) hp_47 rfl rfl (Nat.le_of_ble_eq_true rfl) dX6_kind_16 (q := 19) rfl ?_
    rintro _ rfl
    refine v_iconst hC (v := (-1)) rfl dX6_kind_19 (q := 20) rfl ?_
    refine v_istore_2 hC rfl dX6_kind_20 (q := 21) rfl ?_
    refine v_iconst hC (v := (-1)) rfl dX6_kind_21 (q := 22) rfl ?_
    refine v_istore_3 hC rfl dX6_kind_22 (q := 23) rfl ?_
    refine v_iconst hC (v := 0) rfl dX6_kind_23 (q := 24) rfl ?_
    refine v_istore_4 hC rfl dX6_kind_24 (q := 26) rfl ?_
    exact main P2 hP2 rfl
  · refine v_if_ne hC dX6_kind_5 (t := 15) rfl (q := 8) rfl (fun h => absurd h (by decide)) (fun _ => ?_)
    refine v_aload_n hC rfl dX6_kind_8 (q := 9) rfl ?_
    refine v_ldc hC wk_X6_35 dX6_kind_9 (q := 11) rfl ?_
    refine v_Vi hC lkV_X6_37 (c_X6_finds (n := 0) (by decide)) rfl (by decide) (k := 47) (by decide) hp_47 rfl rfl (Nat.le_of_ble_eq_true rfl) dX6_kind_11 (q := 14) rfl ?_
    rintro _ _ ⟨rfl, rfl⟩
    refine hR _ _ _ _ ?_ dX6_kind_14
    (refine ⟨?_, r 2, ?_⟩ <;> (simp [S_kind, ansI, fnR, hno _ hc2, up_id]; done))
