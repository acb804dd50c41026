set_option maxHeartbeats 4000000 in
set_option maxRecDepth 100000 in
theorem c_X6_orNone {l : Launch} {X : Gx} {S : CS} {i m : Nat → Int32} {r : Nat → Nat → Int32} {c : Nat → Int64} {e : Option Nat} (he : ∀ k, e = some k → k < 1000) : Ci l X yX6_orNone cX6_orNone 2 (some .int) (rmk 1 21) [.ref (ga X 47), .int (m1N e)] (hp X S (i, m, r, c)) (fun z g => z = ansI (orN e) ∧ g = hp X S (i, m, fnR r (orN e), c)) := by
  refine ct_i (own := RX6) (lv := [some (.ref (ga X 47)), some (.int (m1N e))]) (by decide) rfl (Nat.le_of_ble_eq_true rfl) (Nat.le_of_ble_eq_true rfl) rfl (fun C hC hR => ?_)
  refine v_iload_n hC rfl dX6_orNone_0 (q := 1) rfl ?_
  refine v_if_ge hC dX6_orNone_1 (t := 13) rfl (q := 4) rfl (fun h1 => ?_) (fun h1 => ?_)
  · refine v_iload_n hC rfl dX6_orNone_13 (q := 14) rfl ?_
    refine hR _ _ _ _ ?_ dX6_orNone_14
    cases e with
    | none => first | exact absurd h1 (by decide) | exact ⟨rfl, rfl⟩
    | some k =>
      have hk := he k rfl
      first | exact ⟨rfl, rfl⟩ | exact absurd (nI_pos' (by omega)) h1
  · refine v_aload_n hC rfl dX6_orNone_4 (q := 5) rfl ?_
    refine v_ldc hC wk_X6_36 dX6_orNone_5 (q := 7) rfl ?_
    refine v_Vi hC lkV_X6_37 (c_X6_finds (n := 3) (by decide)) rfl (by decide) (k := 47) (by decide) hp_47 rfl rfl (Nat.le_of_ble_eq_true rfl) dX6_orNone_7 (q := 10) rfl ?_
    rintro _ _ ⟨rfl, rfl⟩
    refine v_goto hC dX6_orNone_10 (t := 14) rfl ?_
    refine hR _ _ _ _ ?_ dX6_orNone_14
    cases e with
    | none => first | exact absurd h1 (by decide) | exact ⟨rfl, rfl⟩
    | some k =>
      have hk := he k rfl
      first | exact ⟨rfl, rfl⟩ | exact absurd (nI_pos' (by omega)) h1

set_option maxHeartbeats 4000000 in
set_option maxRecDepth 100000 in
theorem c_X6_easedIn {l : Launch} {X : Gx} {S : CS} {i m : Nat → Int32} {r : Nat → Nat → Int32} {c : Nat → Int64} {n p : Nat} (hN : m 1 = nI n) (h8 : n ≤ 8) (hP : p < n) : Ci l X yX6_easedIn cX6_easedIn 3 (some .int) (rmk 5 115) [.ref (ga X 47), .int (nI p)] (hp X S (i, m, r, c)) (fun z g => z = m1N (eas (nI p) (pv m p)) ∧ g = hp X S (i, r 2, r, c)) := by
  refine ct_i (own := RX6) (lv := [some (.ref (ga X 47)), some (.int (nI p)), none]) (by decide) rfl (Nat.le_of_ble_eq_true rfl) (Nat.le_of_ble_eq_true rfl) rfl (fun C hC hR => ?_)
  have e1 : ∀ j, goN n m j 1 = nI n := fun j => (goN_1 j).trans hN
  have loop : ∀ j, j ≤ 201 → eas (nI p) (pv m p) = fstN (easB (nI p) (pv m p)) (201 - j) j → V l X (rmk 5 115) C (hp X S (i, goN n m j, r, c)) 2 [some (.ref (ga X 47)), some (.int (nI p)), some (.int (nI j))] [] := by
    refine v_up 201 ?_ ?_
    · intro hI
      refine v_iload_n hC rfl dX6_easedIn_2 (q := 3) rfl ?_
      refine v_sipush hC (v := 200) rfl dX6_easedIn_3 (q := 6) rfl ?_
      refine v_icmp_gt hC dX6_easedIn_6 (t := 28) rfl (q := 9) rfl (fun _ => ?_) (fun h => absurd (by decide) h)
      refine v_aload_n hC rfl dX6_easedIn_28 (q := 29) rfl ?_
      refine v_Vv hC lkV_X6_126 c_X6_putsBack rfl (by decide) (k := 47) (by decide) hp_47 rfl rfl (Nat.le_of_ble_eq_true rfl) dX6_easedIn_29 (q := 32) rfl ?_
      rintro _ rfl
      refine v_iload_n hC rfl dX6_easedIn_32 (q := 33) rfl ?_
      refine v_sipush hC (v := 200) rfl dX6_easedIn_33 (q := 36) rfl ?_
      refine v_icmp_le hC dX6_easedIn_36 (t := 43) rfl (q := 39) rfl (fun h => absurd h (by decide)) (fun _ => ?_)
      refine v_iconst hC (v := (-1)) rfl dX6_easedIn_39 (q := 40) rfl ?_
      refine v_goto hC dX6_easedIn_40 (t := 44) rfl ?_
      refine hR _ _ _ _ ?_ dX6_easedIn_44
      refine ⟨?_, rfl⟩
      first | (rw [hI]; rfl) | (rw [hI, if_pos (by simp only [easB]; rw [← pv_goN hP]; simpa using h15)]; rfl)
    · intro j hj ih hI
      rw [show 201 - j = (201 - (j + 1)) + 1 by omega, fstN] at hI
      have hj8 : p < 8 := by omega
      refine v_iload_n hC rfl dX6_easedIn_2 (q := 3) rfl ?_
      refine v_sipush hC (v := 200) rfl dX6_easedIn_3 (q := 6) rfl ?_
      refine v_icmp_gt hC dX6_easedIn_6 (t := 28) rfl (q := 9) rfl (fun h => absurd h (Int32.not_lt.mpr (nI_le (b := 200) (by omega) (by decide)))) (fun _ => ?_)
      refine v_aload_n hC rfl dX6_easedIn_9 (q := 10) rfl ?_
      refine v_iload_n hC rfl dX6_easedIn_10 (q := 11) rfl ?_
      refine v_iconst hC (v := 1) rfl dX6_easedIn_11 (q := 12) rfl ?_
      refine v_Vi hC lkV_X6_49 (c_X6_it (w := 1) (by first | assumption | omega) (Nat.le_of_ble_eq_true rfl)) rfl (by decide) (k := 47) (by decide) hp_47 rfl rfl (Nat.le_of_ble_eq_true rfl) dX6_easedIn_12 (q := 15) rfl ?_
      rintro _ _ ⟨rfl, rfl⟩
      refine v_if_le hC dX6_easedIn_15 (t := 28) rfl (q := 18) rfl (fun h15 => ?_) (fun h15 => ?_)
      · refine v_aload_n hC rfl dX6_easedIn_28 (q := 29) rfl ?_
        refine v_Vv hC lkV_X6_126 c_X6_putsBack rfl (by decide) (k := 47) (by decide) hp_47 rfl rfl (Nat.le_of_ble_eq_true rfl) dX6_easedIn_29 (q := 32) rfl ?_
        rintro _ rfl
        refine v_iload_n hC rfl dX6_easedIn_32 (q := 33) rfl ?_
        refine v_sipush hC (v := 200) rfl dX6_easedIn_33 (q := 36) rfl ?_
        refine v_icmp_le hC dX6_easedIn_36 (t := 43) rfl (q := 39) rfl (fun _ => ?_) (fun h => absurd (nI_le (b := 200) (by omega) (by decide)) h)
        refine v_iload_n hC rfl dX6_easedIn_43 (q := 44) rfl ?_
        refine hR _ _ _ _ ?_ dX6_easedIn_44
        refine ⟨?_, rfl⟩
        first | (rw [hI]; rfl) | (rw [hI, if_pos (by simp only [easB]; rw [← pv_goN hP]; simpa using h15)]; rfl)
      · refine v_aload_n hC rfl dX6_easedIn_18 (q := 19) rfl ?_
        refine v_Vv hC lkV_X6_102 (c_X6_goes (e1 j) h8) rfl (by decide) (k := 47) (by decide) hp_47 rfl rfl (Nat.le_of_ble_eq_true rfl) dX6_easedIn_19 (q := 22) rfl ?_
        rintro _ rfl
        refine v_iinc_2 hC (v := _ + 1) rfl rfl dX6_easedIn_22 (q := 25) rfl ?_
        refine v_goto hC dX6_easedIn_25 (t := 2) rfl ?_
        refine v_same rfl ?_ rfl (ih ?_)
        · simp [nI_1]
        · rw [hI, if_neg (by simp only [easB]; rw [← pv_goN hP]; simpa using h15)]
  refine v_iconst hC (v := 0) rfl dX6_easedIn_0 (q := 1) rfl ?_
  refine v_istore_2 hC rfl dX6_easedIn_1 (q := 2) rfl ?_
  exact loop 0 (by decide) rfl

set_option maxHeartbeats 4000000 in
set_option maxRecDepth 100000 in
theorem c_X6_forgives {l : Launch} {X : Gx} {S : CS} {i m : Nat → Int32} {r : Nat → Nat → Int32} {c : Nat → Int64} {n : Nat} (hN : m 1 = nI n) (h8 : n ≤ 8) {p : Int32} : Ci l X yX6_forgives cX6_forgives 2 (some .int) (rmk 6 137) [.ref (ga X 47), .int p] (hp X S (i, m, r, c)) (fun z g => z = ansI (S_forgives n (pv m) p) ∧ ∃ W, g = hp X S (i, m, fnR (va_up r 2 W) (S_forgives n (pv m) p), c)) := by
  refine ct_i (own := RX6) (lv := [some (.ref (ga X 47)), some (.int p)]) (by decide) rfl (Nat.le_of_ble_eq_true rfl) (Nat.le_of_ble_eq_true rfl) rfl (fun C hC hR => ?_)
  have hix : ∀ P, P < n → pIx n (nI P) = some P := fun P h => pIx_nI h h8
  have hno : ∀ p, (¬ ∃ P, P < n ∧ p = nI P) → pIx n p = none := fun p h => pIx_no h8 h
  refine v_aload_n hC rfl dX6_forgives_0 (q := 1) rfl ?_
  refine v_iload_n hC rfl dX6_forgives_1 (q := 2) rfl ?_
  refine v_Vi hC lkV_X6_45 (c_X6_isPerson hN h8) rfl (by decide) (k := 47) (by decide) hp_47 rfl rfl (Nat.le_of_ble_eq_true rfl) dX6_forgives_2 (q := 5) rfl ?_
  rintro _ _ ⟨⟨⟨P2, hP2, rfl⟩, rfl⟩ | ⟨hc2, rfl⟩, rfl⟩
  · refine v_if_ne hC dX6_forgives_5 (t := 15) rfl (q := 8) rfl (fun _ => ?_) (fun h => absurd h (by decide))
    refine v_aload_n hC rfl dX6_forgives_15 (q := 16) rfl ?_
    refine v_Vv hC lkV_X6_123 c_X6_thinks rfl (by decide) (k := 47) (by decide) hp_47 rfl rfl (Nat.le_of_ble_eq_true rfl) dX6_forgives_16 (q := 19) rfl ?_
    rintro _ rfl
    refine v_aload_n hC rfl dX6_forgives_19 (q := 20) rfl ?_
    refine v_aload_n hC rfl dX6_forgives_20 (q := 21) rfl ?_
    refine v_iload_n hC rfl dX6_forgives_21 (q := 22) rfl ?_
    refine v_Vi hC lkV_X6_129 (c_X6_easedIn hN h8 (by assumption)) rfl (by decide) (k := 47) (by decide) hp_47 rfl rfl (Nat.le_of_ble_eq_true rfl) dX6_forgives_22 (q := 25) rfl ?_
    rintro _ _ ⟨rfl, rfl⟩
    rw [va_up_self]
    refine v_Vi hC lkV_X6_132 (c_X6_orNone (fun k h => by have := fstN_lt _ _ _ h; omega)) rfl (by decide) (k := 47) (by decide) hp_47 rfl rfl (Nat.le_of_ble_eq_true rfl) dX6_forgives_25 (q := 28) rfl ?_
    rintro _ _ ⟨rfl, rfl⟩
    refine hR _ _ _ _ ?_ dX6_forgives_28
    first
      | (refine ⟨?_, r 2, ?_⟩ <;> (simp [S_forgives, ansI, fnR, hno _ hc2, up_id]; done))
      | exact ⟨by simp only [S_forgives, hix _ hP2], m, by simp only [S_forgives, hix _ hP2]⟩
  · refine v_if_ne hC dX6_forgives_5 (t := 15) rfl (q := 8) rfl (fun h => absurd h (by decide)) (fun _ => ?_)
    refine v_aload_n hC rfl dX6_forgives_8 (q := 9) rfl ?_
    refine v_ldc hC wk_X6_35 dX6_forgives_9 (q := 11) rfl ?_
    refine v_Vi hC lkV_X6_37 (c_X6_finds (n := 0) (by decide)) rfl (by decide) (k := 47) (by decide) hp_47 rfl rfl (Nat.le_of_ble_eq_true rfl) dX6_forgives_11 (q := 14) rfl ?_
    rintro _ _ ⟨rfl, rfl⟩
    refine hR _ _ _ _ ?_ dX6_forgives_14
    first
      | (refine ⟨?_, r 2, ?_⟩ <;> (simp [S_forgives, ansI, fnR, hno _ hc2, up_id]; done))
      | exact ⟨by simp only [S_forgives, hix _ hP2], m, by simp only [S_forgives, hix _ hP2]⟩
