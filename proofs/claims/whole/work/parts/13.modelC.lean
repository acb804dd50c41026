set_option maxHeartbeats 4000000 in
set_option maxRecDepth 100000 in
theorem c_X6_person {l : Launch} {X : Gx} {S : CS} {i m : Nat → Int32} {r : Nat → Nat → Int32} {c : Nat → Int64} {n : Nat} (hN : m 1 = nI n) (h8 : n ≤ 8) {kd : Int32} : Ci l X yX6_person cX6_person 2 (some .int) (rmk 2 47) [.ref (ga X 47), .int kd] (hp X S (i, m, r, c)) (fun z g => z = ansI (S_person n kd) ∧ g = hp X S (i, if 0 ≤ kd ∧ kd ≤ 5 ∧ n < 8 then newP m n kd 20 (-1) else m, fnR r (S_person n kd), c)) := by
  refine ct_i (own := RX6) (lv := [some (.ref (ga X 47)), some (.int kd)]) (by decide) rfl (Nat.le_of_ble_eq_true rfl) (Nat.le_of_ble_eq_true rfl) rfl (fun C hC hR => ?_)
  refine v_iload_n hC rfl dX6_person_0 (q := 1) rfl ?_
  refine v_i2l hC dX6_person_1 (q := 2) rfl ?_
  refine v_iconst hC (v := 0) rfl dX6_person_2 (q := 3) rfl ?_
  refine v_iconst hC (v := 5) rfl dX6_person_3 (q := 4) rfl ?_
  refine v_Si hC lkS_X6_41 c_X6_in rfl (by decide) rfl (Nat.le_of_ble_eq_true rfl) dX6_person_4 (q := 7) rfl ?_
  rintro _ _ ⟨⟨hc4, rfl⟩ | ⟨hc4, rfl⟩, rfl⟩
  · refine v_if_ne hC dX6_person_7 (t := 17) rfl (q := 10) rfl (fun _ => ?_) (fun h => absurd h (by decide))
    refine v_aload_n hC rfl dX6_person_17 (q := 18) rfl ?_
    refine v_get hC fl_X6_9 (k := 47) (by decide) hp_47 rfl dX6_person_18 (q := 21) rfl ?_
    refine v_iconst hC (v := 1) rfl dX6_person_21 (q := 22) rfl ?_
    refine v_iald hC (k := 48) (by decide) hp_48 (vp_l (by decide)) (j := 1) rfl dX6_person_22 (q := 23) rfl ?_
    refine v_bipush hC (v := 8) rfl dX6_person_23 (q := 25) rfl ?_
    refine v_icmp_ne hC dX6_person_25 (t := 37) rfl (q := 28) rfl (fun h25 => ?_) (fun h25 => ?_)
    · refine v_aload_n hC rfl dX6_person_37 (q := 38) rfl ?_
      refine v_iload_n hC rfl dX6_person_38 (q := 39) rfl ?_
      refine v_bipush hC (v := 20) rfl dX6_person_39 (q := 41) rfl ?_
      refine v_iconst hC (v := (-1)) rfl dX6_person_41 (q := 42) rfl ?_
      refine v_Vi hC lkV_X6_68 (c_X6_comesAs hN (by have := h25; rw [hN] at this; have h0 : ¬ n = 8 := fun e => this (by rw [e]; rfl); omega)) rfl (by decide) (k := 47) (by decide) hp_47 rfl rfl (Nat.le_of_ble_eq_true rfl) dX6_person_42 (q := 45) rfl ?_
      rintro _ _ ⟨rfl, rfl⟩
      refine hR _ _ _ _ ?_ dX6_person_45
      have hn8 : n = 8 ∨ n < 8 := by omega
      rw [hN] at h25
      rcases hn8 with e | e
      · subst e
        first | exact absurd rfl h25 | exact ⟨by simp [S_person, hc4, ansI], by simp [S_person, hc4, fnR]⟩
      · have e2 : ¬ n = 8 := by omega
        first | exact absurd ((nI_eq (b := 8) (by omega) (by decide)).mp h25) e2 | exact ⟨by simp [S_person, hc4, ansI, e2], by simp [S_person, hc4, fnR, e, e2]⟩
    · refine v_aload_n hC rfl dX6_person_28 (q := 29) rfl ?_
      refine v_ldc hC wk_X6_67 dX6_person_29 (q := 31) rfl ?_
      refine v_Vi hC lkV_X6_37 (c_X6_finds (n := 1) (by decide)) rfl (by decide) (k := 47) (by decide) hp_47 rfl rfl (Nat.le_of_ble_eq_true rfl) dX6_person_31 (q := 34) rfl ?_
      rintro _ _ ⟨rfl, rfl⟩
      refine v_goto hC dX6_person_34 (t := 45) rfl ?_
      refine hR _ _ _ _ ?_ dX6_person_45
      have hn8 : n = 8 ∨ n < 8 := by omega
      rw [hN] at h25
      rcases hn8 with e | e
      · subst e
        first | exact absurd rfl h25 | exact ⟨by simp [S_person, hc4, ansI], by simp [S_person, hc4, fnR]⟩
      · have e2 : ¬ n = 8 := by omega
        first | exact absurd ((nI_eq (b := 8) (by omega) (by decide)).mp h25) e2 | exact ⟨by simp [S_person, hc4, ansI, e2], by simp [S_person, hc4, fnR, e, e2]⟩
  · refine v_if_ne hC dX6_person_7 (t := 17) rfl (q := 10) rfl (fun h => absurd h (by decide)) (fun _ => ?_)
    refine v_aload_n hC rfl dX6_person_10 (q := 11) rfl ?_
    refine v_ldc hC wk_X6_35 dX6_person_11 (q := 13) rfl ?_
    refine v_Vi hC lkV_X6_37 (c_X6_finds (n := 0) (by decide)) rfl (by decide) (k := 47) (by decide) hp_47 rfl rfl (Nat.le_of_ble_eq_true rfl) dX6_person_13 (q := 16) rfl ?_
    rintro _ _ ⟨rfl, rfl⟩
    refine hR _ _ _ _ ?_ dX6_person_16
    refine ⟨?_, ?_⟩
    · simp [S_person, hc4, ansI]
    · simp only [S_person, if_neg hc4, fnR]
      rw [if_neg (fun z => hc4 ⟨z.1, z.2.1⟩)]

set_option maxHeartbeats 4000000 in
set_option maxRecDepth 100000 in
theorem c_X6_of {l : Launch} {X : Gx} {S : CS} {i m : Nat → Int32} {r : Nat → Nat → Int32} {c : Nat → Int64} {n : Nat} (hN : m 1 = nI n) (h8 : n ≤ 8) {p w : Int32} : Ci l X yX6_of cX6_of 3 (some .int) (rmk 4 93) [.ref (ga X 47), .int p, .int w] (hp X S (i, m, r, c)) (fun z g => z = ansI (S_of n (pv m) p w) ∧ g = hp X S (i, m, fnR r (S_of n (pv m) p w), c)) := by
  refine ct_i (own := RX6) (lv := [some (.ref (ga X 47)), some (.int p), some (.int w)]) (by decide) rfl (Nat.le_of_ble_eq_true rfl) (Nat.le_of_ble_eq_true rfl) rfl (fun C hC hR => ?_)
  have hix : ∀ P, P < n → pIx n (nI P) = some P := fun P h => pIx_nI h h8
  have hno : ∀ p, (¬ ∃ P, P < n ∧ p = nI P) → pIx n p = none := fun p h => pIx_no h8 h
  refine v_aload_n hC rfl dX6_of_0 (q := 1) rfl ?_
  refine v_iload_n hC rfl dX6_of_1 (q := 2) rfl ?_
  refine v_Vi hC lkV_X6_45 (c_X6_isPerson hN h8) rfl (by decide) (k := 47) (by decide) hp_47 rfl rfl (Nat.le_of_ble_eq_true rfl) dX6_of_2 (q := 5) rfl ?_
  rintro _ _ ⟨⟨⟨P2, hP2, rfl⟩, rfl⟩ | ⟨hc2, rfl⟩, rfl⟩
  · refine v_if_eq hC dX6_of_5 (t := 19) rfl (q := 8) rfl (fun h => absurd h (by decide)) (fun _ => ?_)
    refine v_iload_n hC rfl dX6_of_8 (q := 9) rfl ?_
    refine v_i2l hC dX6_of_9 (q := 10) rfl ?_
    refine v_iconst hC (v := 0) rfl dX6_of_10 (q := 11) rfl ?_
    refine v_bipush hC (v := 9) rfl dX6_of_11 (q := 13) rfl ?_
    refine v_Si hC lkS_X6_41 c_X6_in rfl (by decide) rfl (Nat.le_of_ble_eq_true rfl) dX6_of_13 (q := 16) rfl ?_
    rintro _ _ ⟨⟨hc13, rfl⟩ | ⟨hc13, rfl⟩, rfl⟩
    · refine v_if_ne hC dX6_of_16 (t := 26) rfl (q := 19) rfl (fun _ => ?_) (fun h => absurd h (by decide))
      refine v_iload_n hC rfl dX6_of_26 (q := 27) rfl ?_
      refine v_bipush hC (v := 7) rfl dX6_of_27 (q := 29) rfl ?_
      refine v_icmp_ge hC dX6_of_29 (t := 39) rfl (q := 32) rfl (fun h29 => ?_) (fun h29 => ?_)
      · refine v_iload_n hC rfl dX6_of_39 (q := 40) rfl ?_
        refine v_bipush hC (v := 7) rfl dX6_of_40 (q := 42) rfl ?_
        refine v_icmp_ne hC dX6_of_42 (t := 53) rfl (q := 45) rfl (fun h42 => ?_) (fun h42 => ?_)
        · refine v_iload_n hC rfl dX6_of_53 (q := 54) rfl ?_
          refine v_bipush hC (v := 8) rfl dX6_of_54 (q := 56) rfl ?_
          refine v_icmp_ne hC dX6_of_56 (t := 67) rfl (q := 59) rfl (fun h56 => ?_) (fun h56 => ?_)
          · refine v_aload_n hC rfl dX6_of_67 (q := 68) rfl ?_
            refine v_iload_n hC rfl dX6_of_68 (q := 69) rfl ?_
            refine v_Vi hC lkV_X6_77 (c_X6_grows (by omega)) rfl (by decide) (k := 47) (by decide) hp_47 rfl rfl (Nat.le_of_ble_eq_true rfl) dX6_of_69 (q := 72) rfl ?_
            rintro _ _ ⟨rfl, rfl⟩
            refine hR _ _ _ _ ?_ dX6_of_72
            first
              | (refine ⟨?_, ?_⟩ <;> (simp [S_of, ansI, fnR, hno _ hc2]; done))
              | (refine ⟨?_, ?_⟩ <;> (simp [S_of, ansI, fnR, hix _ hP2, *]; done))
              | (refine ⟨?_, ?_⟩ <;> (simp only [S_of, ansI, fnR, hix _ hP2]; grind; done))
              | (refine ⟨?_, ?_⟩ <;> (simp only [S_of, ansI, fnR, hix _ hP2, *]; grind; done))
          · refine v_aload_n hC rfl dX6_of_59 (q := 60) rfl ?_
            refine v_iload_n hC rfl dX6_of_60 (q := 61) rfl ?_
            refine v_Vi hC lkV_X6_74 (c_X6_eases (by omega)) rfl (by decide) (k := 47) (by decide) hp_47 rfl rfl (Nat.le_of_ble_eq_true rfl) dX6_of_61 (q := 64) rfl ?_
            rintro _ _ ⟨rfl, rfl⟩
            refine v_goto hC dX6_of_64 (t := 72) rfl ?_
            refine hR _ _ _ _ ?_ dX6_of_72
            first
              | (refine ⟨?_, ?_⟩ <;> (simp [S_of, ansI, fnR, hno _ hc2]; done))
              | (refine ⟨?_, ?_⟩ <;> (simp [S_of, ansI, fnR, hix _ hP2, *]; done))
              | (refine ⟨?_, ?_⟩ <;> (simp only [S_of, ansI, fnR, hix _ hP2]; grind; done))
              | (refine ⟨?_, ?_⟩ <;> (simp only [S_of, ansI, fnR, hix _ hP2, *]; grind; done))
        · refine v_aload_n hC rfl dX6_of_45 (q := 46) rfl ?_
          refine v_iload_n hC rfl dX6_of_46 (q := 47) rfl ?_
          refine v_Vi hC lkV_X6_71 (c_X6_grinds (by omega)) rfl (by decide) (k := 47) (by decide) hp_47 rfl rfl (Nat.le_of_ble_eq_true rfl) dX6_of_47 (q := 50) rfl ?_
          rintro _ _ ⟨rfl, rfl⟩
          refine v_goto hC dX6_of_50 (t := 72) rfl ?_
          refine hR _ _ _ _ ?_ dX6_of_72
          first
            | (refine ⟨?_, ?_⟩ <;> (simp [S_of, ansI, fnR, hno _ hc2]; done))
            | (refine ⟨?_, ?_⟩ <;> (simp [S_of, ansI, fnR, hix _ hP2, *]; done))
            | (refine ⟨?_, ?_⟩ <;> (simp only [S_of, ansI, fnR, hix _ hP2]; grind; done))
            | (refine ⟨?_, ?_⟩ <;> (simp only [S_of, ansI, fnR, hix _ hP2, *]; grind; done))
      · obtain ⟨W, hW, rfl⟩ := w_of (N := 7) (by decide) hc13.1 (Int32.not_le.mp h29)
        have hcl : (nI W).toNatClampNeg = W := nI_clamp (by omega)
        have h26b : nI W < 7 := Int32.not_le.mp h29
        refine v_aload_n hC rfl dX6_of_32 (q := 33) rfl ?_
        refine v_iload_n hC rfl dX6_of_33 (q := 34) rfl ?_
        refine v_iload_n hC rfl dX6_of_34 (q := 35) rfl ?_
        refine v_Vi hC lkV_X6_49 (c_X6_it (w := W) (by omega) hW) rfl (by decide) (k := 47) (by decide) hp_47 rfl rfl (Nat.le_of_ble_eq_true rfl) dX6_of_35 (q := 38) rfl ?_
        rintro _ _ ⟨rfl, rfl⟩
        refine hR _ _ _ _ ?_ dX6_of_38
        first
          | (refine ⟨?_, ?_⟩ <;> (simp [S_of, ansI, fnR, hno _ hc2]; done))
          | (refine ⟨?_, ?_⟩ <;> (simp [S_of, ansI, fnR, hix _ hP2, *]; done))
          | (refine ⟨?_, ?_⟩ <;> (simp only [S_of, ansI, fnR, hix _ hP2]; grind; done))
          | (refine ⟨?_, ?_⟩ <;> (simp only [S_of, ansI, fnR, hix _ hP2, *]; grind; done))
    · refine v_if_ne hC dX6_of_16 (t := 26) rfl (q := 19) rfl (fun h => absurd h (by decide)) (fun _ => ?_)
      refine v_aload_n hC rfl dX6_of_19 (q := 20) rfl ?_
      refine v_ldc hC wk_X6_35 dX6_of_20 (q := 22) rfl ?_
      refine v_Vi hC lkV_X6_37 (c_X6_finds (n := 0) (by decide)) rfl (by decide) (k := 47) (by decide) hp_47 rfl rfl (Nat.le_of_ble_eq_true rfl) dX6_of_22 (q := 25) rfl ?_
      rintro _ _ ⟨rfl, rfl⟩
      refine hR _ _ _ _ ?_ dX6_of_25
      first
        | (refine ⟨?_, ?_⟩ <;> (simp [S_of, ansI, fnR, hno _ hc2]; done))
        | (refine ⟨?_, ?_⟩ <;> (simp [S_of, ansI, fnR, hix _ hP2, *]; done))
        | (refine ⟨?_, ?_⟩ <;> (simp only [S_of, ansI, fnR, hix _ hP2]; grind; done))
        | (refine ⟨?_, ?_⟩ <;> (simp only [S_of, ansI, fnR, hix _ hP2, *]; grind; done))
  · refine v_if_eq hC dX6_of_5 (t := 19) rfl (q := 8) rfl (fun _ => ?_) (fun h => absurd h (by decide))
    refine v_aload_n hC rfl dX6_of_19 (q := 20) rfl ?_
    refine v_ldc hC wk_X6_35 dX6_of_20 (q := 22) rfl ?_
    refine v_Vi hC lkV_X6_37 (c_X6_finds (n := 0) (by decide)) rfl (by decide) (k := 47) (by decide) hp_47 rfl rfl (Nat.le_of_ble_eq_true rfl) dX6_of_22 (q := 25) rfl ?_
    rintro _ _ ⟨rfl, rfl⟩
    refine hR _ _ _ _ ?_ dX6_of_25
    first
      | (refine ⟨?_, ?_⟩ <;> (simp [S_of, ansI, fnR, hno _ hc2]; done))
      | (refine ⟨?_, ?_⟩ <;> (simp [S_of, ansI, fnR, hix _ hP2, *]; done))
      | (refine ⟨?_, ?_⟩ <;> (simp only [S_of, ansI, fnR, hix _ hP2]; grind; done))
      | (refine ⟨?_, ?_⟩ <;> (simp only [S_of, ansI, fnR, hix _ hP2, *]; grind; done))

theorem w_of' {w : Int32} {a N : Nat} (ha : a < 1000) (hN : N < 1000) (h0 : nI a ≤ w) (h1 : w ≤ nI N) : ∃ W, a ≤ W ∧ W ≤ N ∧ w = nI W := by
  rw [fa_le, nI_toInt (by omega)] at h0
  rw [fa_le, nI_toInt (by omega)] at h1
  refine ⟨w.toInt.toNat, by omega, by omega, Int32.toInt_inj.mp ?_⟩
  rw [nI_toInt (by omega)]
  omega
set_option maxHeartbeats 4000000 in
set_option maxRecDepth 100000 in
theorem c_X6_mayBe {l : Launch} {X : Gx} {S : CS} {i m : Nat → Int32} {r : Nat → Nat → Int32} {c : Nat → Int64} {n : Nat} (hN : m 1 = nI n) (h8 : n ≤ 8) {w v : Int32} : Ci l X yX6_mayBe cX6_mayBe 4 (some .boolean) (rmk 1 23) [.ref (ga X 47), .int w, .int v] (hp X S (i, m, r, c)) (fun z g => (((1 ≤ w ∧ w ≤ 6) ∧ (if w = 2 ∨ w = 4 then -1 ≤ v ∧ v ≤ nI n - 1 else if w = 3 then 0 ≤ v ∧ v ≤ 1 else 0 ≤ v ∧ v ≤ 99)) ∧ z = 1 ∨ ¬ ((1 ≤ w ∧ w ≤ 6) ∧ (if w = 2 ∨ w = 4 then -1 ≤ v ∧ v ≤ nI n - 1 else if w = 3 then 0 ≤ v ∧ v ≤ 1 else 0 ≤ v ∧ v ≤ 99)) ∧ z = 0) ∧ g = hp X S (i, m, r, c)) := by
  refine ct_z (own := RX6) (lv := [some (.ref (ga X 47)), some (.int w), some (.int v), none]) (by decide) rfl (Nat.le_of_ble_eq_true rfl) (Nat.le_of_ble_eq_true rfl) rfl (fun C hC hR => ?_)
  refine v_iload_n hC rfl dX6_mayBe_0 (q := 1) rfl ?_
  refine v_iconst hC (v := 2) rfl dX6_mayBe_1 (q := 2) rfl ?_
  refine v_icmp_eq hC dX6_mayBe_2 (t := 10) rfl (q := 5) rfl (fun h2 => ?_) (fun h2 => ?_)
  · refine v_iconst hC (v := 1) rfl dX6_mayBe_10 (q := 11) rfl ?_
    refine v_goto hC dX6_mayBe_11 (t := 15) rfl ?_
    refine v_istore_3 hC rfl dX6_mayBe_15 (q := 16) rfl ?_
    refine v_iload_n hC rfl dX6_mayBe_16 (q := 17) rfl ?_
    refine v_i2l hC dX6_mayBe_17 (q := 18) rfl ?_
    refine v_iconst hC (v := 1) rfl dX6_mayBe_18 (q := 19) rfl ?_
    refine v_bipush hC (v := 6) rfl dX6_mayBe_19 (q := 21) rfl ?_
    refine v_Si hC lkS_X6_41 c_X6_in rfl (by decide) rfl (Nat.le_of_ble_eq_true rfl) dX6_mayBe_21 (q := 24) rfl ?_
    rintro _ _ ⟨⟨hc21, rfl⟩ | ⟨hc21, rfl⟩, rfl⟩
    · refine v_if_eq hC dX6_mayBe_24 (t := 74) rfl (q := 27) rfl (fun h => absurd h (by decide)) (fun _ => ?_)
      refine v_iload_n hC rfl dX6_mayBe_27 (q := 28) rfl ?_
      refine v_i2l hC dX6_mayBe_28 (q := 29) rfl ?_
      refine v_iload_n hC rfl dX6_mayBe_29 (q := 30) rfl ?_
      refine v_if_eq hC dX6_mayBe_30 (t := 37) rfl (q := 33) rfl (fun h => absurd h (by decide)) (fun _ => ?_)
      refine v_iconst hC (v := (-1)) rfl dX6_mayBe_33 (q := 34) rfl ?_
      refine v_goto hC dX6_mayBe_34 (t := 38) rfl ?_
      refine v_iload_n hC rfl dX6_mayBe_38 (q := 39) rfl ?_
      refine v_if_eq hC dX6_mayBe_39 (t := 53) rfl (q := 42) rfl (fun h => absurd h (by decide)) (fun _ => ?_)
      refine v_aload_n hC rfl dX6_mayBe_42 (q := 43) rfl ?_
      refine v_get hC fl_X6_9 (k := 47) (by decide) hp_47 rfl dX6_mayBe_43 (q := 46) rfl ?_
      refine v_iconst hC (v := 1) rfl dX6_mayBe_46 (q := 47) rfl ?_
      refine v_iald hC (k := 48) (by decide) hp_48 (vp_l (by decide)) (j := 1) rfl dX6_mayBe_47 (q := 48) rfl ?_
      rw [hN]
      refine v_iconst hC (v := 1) rfl dX6_mayBe_48 (q := 49) rfl ?_
      refine v_isub hC dX6_mayBe_49 (q := 50) rfl ?_
      refine v_goto hC dX6_mayBe_50 (t := 64) rfl ?_
      refine v_Si hC lkS_X6_41 c_X6_in rfl (by decide) rfl (Nat.le_of_ble_eq_true rfl) dX6_mayBe_64 (q := 67) rfl ?_
      rintro _ _ ⟨⟨hc64, rfl⟩ | ⟨hc64, rfl⟩, rfl⟩
      · refine v_if_eq hC dX6_mayBe_67 (t := 74) rfl (q := 70) rfl (fun h => absurd h (by decide)) (fun _ => ?_)
        refine v_iconst hC (v := 1) rfl dX6_mayBe_70 (q := 71) rfl ?_
        refine v_goto hC dX6_mayBe_71 (t := 75) rfl ?_
        refine hR _ _ _ _ ?_ (by first | rfl | decide | assumption) dX6_mayBe_75
        refine ⟨Or.inl ⟨?_, rfl⟩, rfl⟩
        first | (simp [*] at *; done) | grind
      · refine v_if_eq hC dX6_mayBe_67 (t := 74) rfl (q := 70) rfl (fun _ => ?_) (fun h => absurd h (by decide))
        refine v_iconst hC (v := 0) rfl dX6_mayBe_74 (q := 75) rfl ?_
        refine hR _ _ _ _ ?_ (by first | rfl | decide | assumption) dX6_mayBe_75
        refine ⟨Or.inr ⟨?_, rfl⟩, rfl⟩
        first | (simp [*] at *; done) | grind
    · refine v_if_eq hC dX6_mayBe_24 (t := 74) rfl (q := 27) rfl (fun _ => ?_) (fun h => absurd h (by decide))
      refine v_iconst hC (v := 0) rfl dX6_mayBe_74 (q := 75) rfl ?_
      refine hR _ _ _ _ ?_ (by first | rfl | decide | assumption) dX6_mayBe_75
      refine ⟨Or.inr ⟨?_, rfl⟩, rfl⟩
      first | (simp [*] at *; done) | grind
  · refine v_iload_n hC rfl dX6_mayBe_5 (q := 6) rfl ?_
    refine v_iconst hC (v := 4) rfl dX6_mayBe_6 (q := 7) rfl ?_
    refine v_icmp_ne hC dX6_mayBe_7 (t := 14) rfl (q := 10) rfl (fun h7 => ?_) (fun h7 => ?_)
    · refine v_iconst hC (v := 0) rfl dX6_mayBe_14 (q := 15) rfl ?_
      refine v_istore_3 hC rfl dX6_mayBe_15 (q := 16) rfl ?_
      refine v_iload_n hC rfl dX6_mayBe_16 (q := 17) rfl ?_
      refine v_i2l hC dX6_mayBe_17 (q := 18) rfl ?_
      refine v_iconst hC (v := 1) rfl dX6_mayBe_18 (q := 19) rfl ?_
      refine v_bipush hC (v := 6) rfl dX6_mayBe_19 (q := 21) rfl ?_
      refine v_Si hC lkS_X6_41 c_X6_in rfl (by decide) rfl (Nat.le_of_ble_eq_true rfl) dX6_mayBe_21 (q := 24) rfl ?_
      rintro _ _ ⟨⟨hc21, rfl⟩ | ⟨hc21, rfl⟩, rfl⟩
      · refine v_if_eq hC dX6_mayBe_24 (t := 74) rfl (q := 27) rfl (fun h => absurd h (by decide)) (fun _ => ?_)
        refine v_iload_n hC rfl dX6_mayBe_27 (q := 28) rfl ?_
        refine v_i2l hC dX6_mayBe_28 (q := 29) rfl ?_
        refine v_iload_n hC rfl dX6_mayBe_29 (q := 30) rfl ?_
        refine v_if_eq hC dX6_mayBe_30 (t := 37) rfl (q := 33) rfl (fun _ => ?_) (fun h => absurd h (by decide))
        refine v_iconst hC (v := 0) rfl dX6_mayBe_37 (q := 38) rfl ?_
        refine v_iload_n hC rfl dX6_mayBe_38 (q := 39) rfl ?_
        refine v_if_eq hC dX6_mayBe_39 (t := 53) rfl (q := 42) rfl (fun _ => ?_) (fun h => absurd h (by decide))
        refine v_iload_n hC rfl dX6_mayBe_53 (q := 54) rfl ?_
        refine v_iconst hC (v := 3) rfl dX6_mayBe_54 (q := 55) rfl ?_
        refine v_icmp_ne hC dX6_mayBe_55 (t := 62) rfl (q := 58) rfl (fun h55 => ?_) (fun h55 => ?_)
        · refine v_bipush hC (v := 99) rfl dX6_mayBe_62 (q := 64) rfl ?_
          refine v_Si hC lkS_X6_41 c_X6_in rfl (by decide) rfl (Nat.le_of_ble_eq_true rfl) dX6_mayBe_64 (q := 67) rfl ?_
          rintro _ _ ⟨⟨hc64, rfl⟩ | ⟨hc64, rfl⟩, rfl⟩
          · refine v_if_eq hC dX6_mayBe_67 (t := 74) rfl (q := 70) rfl (fun h => absurd h (by decide)) (fun _ => ?_)
            refine v_iconst hC (v := 1) rfl dX6_mayBe_70 (q := 71) rfl ?_
            refine v_goto hC dX6_mayBe_71 (t := 75) rfl ?_
            refine hR _ _ _ _ ?_ (by first | rfl | decide | assumption) dX6_mayBe_75
            refine ⟨Or.inl ⟨?_, rfl⟩, rfl⟩
            first | (simp [*] at *; done) | grind
          · refine v_if_eq hC dX6_mayBe_67 (t := 74) rfl (q := 70) rfl (fun _ => ?_) (fun h => absurd h (by decide))
            refine v_iconst hC (v := 0) rfl dX6_mayBe_74 (q := 75) rfl ?_
            refine hR _ _ _ _ ?_ (by first | rfl | decide | assumption) dX6_mayBe_75
            refine ⟨Or.inr ⟨?_, rfl⟩, rfl⟩
            first | (simp [*] at *; done) | grind
        · refine v_iconst hC (v := 1) rfl dX6_mayBe_58 (q := 59) rfl ?_
          refine v_goto hC dX6_mayBe_59 (t := 64) rfl ?_
          refine v_Si hC lkS_X6_41 c_X6_in rfl (by decide) rfl (Nat.le_of_ble_eq_true rfl) dX6_mayBe_64 (q := 67) rfl ?_
          rintro _ _ ⟨⟨hc64, rfl⟩ | ⟨hc64, rfl⟩, rfl⟩
          · refine v_if_eq hC dX6_mayBe_67 (t := 74) rfl (q := 70) rfl (fun h => absurd h (by decide)) (fun _ => ?_)
            refine v_iconst hC (v := 1) rfl dX6_mayBe_70 (q := 71) rfl ?_
            refine v_goto hC dX6_mayBe_71 (t := 75) rfl ?_
            refine hR _ _ _ _ ?_ (by first | rfl | decide | assumption) dX6_mayBe_75
            refine ⟨Or.inl ⟨?_, rfl⟩, rfl⟩
            first | (simp [*] at *; done) | grind
          · refine v_if_eq hC dX6_mayBe_67 (t := 74) rfl (q := 70) rfl (fun _ => ?_) (fun h => absurd h (by decide))
            refine v_iconst hC (v := 0) rfl dX6_mayBe_74 (q := 75) rfl ?_
            refine hR _ _ _ _ ?_ (by first | rfl | decide | assumption) dX6_mayBe_75
            refine ⟨Or.inr ⟨?_, rfl⟩, rfl⟩
            first | (simp [*] at *; done) | grind
      · refine v_if_eq hC dX6_mayBe_24 (t := 74) rfl (q := 27) rfl (fun _ => ?_) (fun h => absurd h (by decide))
        refine v_iconst hC (v := 0) rfl dX6_mayBe_74 (q := 75) rfl ?_
        refine hR _ _ _ _ ?_ (by first | rfl | decide | assumption) dX6_mayBe_75
        refine ⟨Or.inr ⟨?_, rfl⟩, rfl⟩
        first | (simp [*] at *; done) | grind
    · refine v_iconst hC (v := 1) rfl dX6_mayBe_10 (q := 11) rfl ?_
      refine v_goto hC dX6_mayBe_11 (t := 15) rfl ?_
      refine v_istore_3 hC rfl dX6_mayBe_15 (q := 16) rfl ?_
      refine v_iload_n hC rfl dX6_mayBe_16 (q := 17) rfl ?_
      refine v_i2l hC dX6_mayBe_17 (q := 18) rfl ?_
      refine v_iconst hC (v := 1) rfl dX6_mayBe_18 (q := 19) rfl ?_
      refine v_bipush hC (v := 6) rfl dX6_mayBe_19 (q := 21) rfl ?_
      refine v_Si hC lkS_X6_41 c_X6_in rfl (by decide) rfl (Nat.le_of_ble_eq_true rfl) dX6_mayBe_21 (q := 24) rfl ?_
      rintro _ _ ⟨⟨hc21, rfl⟩ | ⟨hc21, rfl⟩, rfl⟩
      · refine v_if_eq hC dX6_mayBe_24 (t := 74) rfl (q := 27) rfl (fun h => absurd h (by decide)) (fun _ => ?_)
        refine v_iload_n hC rfl dX6_mayBe_27 (q := 28) rfl ?_
        refine v_i2l hC dX6_mayBe_28 (q := 29) rfl ?_
        refine v_iload_n hC rfl dX6_mayBe_29 (q := 30) rfl ?_
        refine v_if_eq hC dX6_mayBe_30 (t := 37) rfl (q := 33) rfl (fun h => absurd h (by decide)) (fun _ => ?_)
        refine v_iconst hC (v := (-1)) rfl dX6_mayBe_33 (q := 34) rfl ?_
        refine v_goto hC dX6_mayBe_34 (t := 38) rfl ?_
        refine v_iload_n hC rfl dX6_mayBe_38 (q := 39) rfl ?_
        refine v_if_eq hC dX6_mayBe_39 (t := 53) rfl (q := 42) rfl (fun h => absurd h (by decide)) (fun _ => ?_)
        refine v_aload_n hC rfl dX6_mayBe_42 (q := 43) rfl ?_
        refine v_get hC fl_X6_9 (k := 47) (by decide) hp_47 rfl dX6_mayBe_43 (q := 46) rfl ?_
        refine v_iconst hC (v := 1) rfl dX6_mayBe_46 (q := 47) rfl ?_
        refine v_iald hC (k := 48) (by decide) hp_48 (vp_l (by decide)) (j := 1) rfl dX6_mayBe_47 (q := 48) rfl ?_
        rw [hN]
        refine v_iconst hC (v := 1) rfl dX6_mayBe_48 (q := 49) rfl ?_
        refine v_isub hC dX6_mayBe_49 (q := 50) rfl ?_
        refine v_goto hC dX6_mayBe_50 (t := 64) rfl ?_
        refine v_Si hC lkS_X6_41 c_X6_in rfl (by decide) rfl (Nat.le_of_ble_eq_true rfl) dX6_mayBe_64 (q := 67) rfl ?_
        rintro _ _ ⟨⟨hc64, rfl⟩ | ⟨hc64, rfl⟩, rfl⟩
        · refine v_if_eq hC dX6_mayBe_67 (t := 74) rfl (q := 70) rfl (fun h => absurd h (by decide)) (fun _ => ?_)
          refine v_iconst hC (v := 1) rfl dX6_mayBe_70 (q := 71) rfl ?_
          refine v_goto hC dX6_mayBe_71 (t := 75) rfl ?_
          refine hR _ _ _ _ ?_ (by first | rfl | decide | assumption) dX6_mayBe_75
          refine ⟨Or.inl ⟨?_, rfl⟩, rfl⟩
          first | (simp [*] at *; done) | grind
        · refine v_if_eq hC dX6_mayBe_67 (t := 74) rfl (q := 70) rfl (fun _ => ?_) (fun h => absurd h (by decide))
          refine v_iconst hC (v := 0) rfl dX6_mayBe_74 (q := 75) rfl ?_
          refine hR _ _ _ _ ?_ (by first | rfl | decide | assumption) dX6_mayBe_75
          refine ⟨Or.inr ⟨?_, rfl⟩, rfl⟩
          first | (simp [*] at *; done) | grind
      · refine v_if_eq hC dX6_mayBe_24 (t := 74) rfl (q := 27) rfl (fun _ => ?_) (fun h => absurd h (by decide))
        refine v_iconst hC (v := 0) rfl dX6_mayBe_74 (q := 75) rfl ?_
        refine hR _ _ _ _ ?_ (by first | rfl | decide | assumption) dX6_mayBe_75
        refine ⟨Or.inr ⟨?_, rfl⟩, rfl⟩
        first | (simp [*] at *; done) | grind

set_option maxHeartbeats 4000000 in
set_option maxRecDepth 100000 in
theorem c_X6_set {l : Launch} {X : Gx} {S : CS} {i m : Nat → Int32} {r : Nat → Nat → Int32} {c : Nat → Int64} {n : Nat} (hN : m 1 = nI n) (h8 : n ≤ 8) {p w v : Int32} : Ci l X yX6_set cX6_set 4 (some .int) (rmk 2 46) [.ref (ga X 47), .int p, .int w, .int v] (hp X S (i, m, r, c)) (fun z g => z = ansI (S_set n (pv m) p w v) ∧ g = hp X S (i, M_set n m p w v, fnR r (S_set n (pv m) p w v), c)) := by
  refine ct_i (own := RX6) (lv := [some (.ref (ga X 47)), some (.int p), some (.int w), some (.int v)]) (by decide) rfl (Nat.le_of_ble_eq_true rfl) (Nat.le_of_ble_eq_true rfl) rfl (fun C hC hR => ?_)
  have hix : ∀ P, P < n → pIx n (nI P) = some P := fun P h => pIx_nI h h8
  have hno : ∀ p, (¬ ∃ P, P < n ∧ p = nI P) → pIx n p = none := fun p h => pIx_no h8 h
  refine v_aload_n hC rfl dX6_set_0 (q := 1) rfl ?_
  refine v_iload_n hC rfl dX6_set_1 (q := 2) rfl ?_
  refine v_Vi hC lkV_X6_45 (c_X6_isPerson hN h8) rfl (by decide) (k := 47) (by decide) hp_47 rfl rfl (Nat.le_of_ble_eq_true rfl) dX6_set_2 (q := 5) rfl ?_
  rintro _ _ ⟨⟨⟨P2, hP2, rfl⟩, rfl⟩ | ⟨hc2, rfl⟩, rfl⟩
  · refine v_if_eq hC dX6_set_5 (t := 33) rfl (q := 8) rfl (fun h => absurd h (by decide)) (fun _ => ?_)
    refine v_aload_n hC rfl dX6_set_8 (q := 9) rfl ?_
    refine v_iload_n hC rfl dX6_set_9 (q := 10) rfl ?_
    refine v_iload_n hC rfl dX6_set_10 (q := 11) rfl ?_
    refine v_Vi hC lkV_X6_80 (c_X6_mayBe hN h8) rfl (by decide) (k := 47) (by decide) hp_47 rfl rfl (Nat.le_of_ble_eq_true rfl) dX6_set_11 (q := 14) rfl ?_
    rintro _ _ ⟨⟨hc11, rfl⟩ | ⟨hc11, rfl⟩, rfl⟩
    · refine v_if_eq hC dX6_set_14 (t := 33) rfl (q := 17) rfl (fun h => absurd h (by decide)) (fun _ => ?_)
      obtain ⟨W, hW0, hW, rfl⟩ := w_of' (a := 1) (N := 6) (by decide) (by decide) hc11.1.1 hc11.1.2
      have hcl : (nI W).toNatClampNeg = W := nI_clamp (by omega)
      refine v_aload_n hC rfl dX6_set_17 (q := 18) rfl ?_
      refine v_iconst hC (v := 2) rfl dX6_set_18 (q := 19) rfl ?_
      refine v_bipush hC (v := 7) rfl dX6_set_19 (q := 21) rfl ?_
      refine v_iload_n hC rfl dX6_set_21 (q := 22) rfl ?_
      refine v_imul hC dX6_set_22 (q := 23) rfl ?_
      refine v_iadd hC dX6_set_23 (q := 24) rfl ?_
      refine v_iload_n hC rfl dX6_set_24 (q := 25) rfl ?_
      refine v_iadd hC dX6_set_25 (q := 26) rfl ?_
      refine v_iload_n hC rfl dX6_set_26 (q := 27) rfl ?_
      refine v_Vi hC lkV_X6_84 (c_X6_becomes (p := P2) (w := W) (by omega) (by omega)) rfl (by decide) (k := 47) (by decide) hp_47 rfl rfl (Nat.le_of_ble_eq_true rfl) dX6_set_27 (q := 30) rfl ?_
      rintro _ _ ⟨rfl, rfl⟩
      refine v_goto hC dX6_set_30 (t := 39) rfl ?_
      refine hR _ _ _ _ ?_ dX6_set_39
      first
        | (refine ⟨?_, ?_⟩ <;> (simp [S_set, M_set, ansI, fnR, hno _ hc2]; done))
        | (refine ⟨?_, ?_⟩ <;> (simp only [S_set, M_set, hix _ hP2, if_pos hc11, ansI, fnR, hcl]; done))
        | (refine ⟨?_, ?_⟩ <;> (simp only [S_set, M_set, hix _ hP2, if_neg hc11, ansI, fnR]; done))
    · refine v_if_eq hC dX6_set_14 (t := 33) rfl (q := 17) rfl (fun _ => ?_) (fun h => absurd h (by decide))
      refine v_aload_n hC rfl dX6_set_33 (q := 34) rfl ?_
      refine v_ldc hC wk_X6_35 dX6_set_34 (q := 36) rfl ?_
      refine v_Vi hC lkV_X6_37 (c_X6_finds (n := 0) (by decide)) rfl (by decide) (k := 47) (by decide) hp_47 rfl rfl (Nat.le_of_ble_eq_true rfl) dX6_set_36 (q := 39) rfl ?_
      rintro _ _ ⟨rfl, rfl⟩
      refine hR _ _ _ _ ?_ dX6_set_39
      first
        | (refine ⟨?_, ?_⟩ <;> (simp [S_set, M_set, ansI, fnR, hno _ hc2]; done))
        | (refine ⟨?_, ?_⟩ <;> (simp only [S_set, M_set, hix _ hP2, if_pos hc11, ansI, fnR, hcl]; done))
        | (refine ⟨?_, ?_⟩ <;> (simp only [S_set, M_set, hix _ hP2, if_neg hc11, ansI, fnR]; done))
  · refine v_if_eq hC dX6_set_5 (t := 33) rfl (q := 8) rfl (fun _ => ?_) (fun h => absurd h (by decide))
    refine v_aload_n hC rfl dX6_set_33 (q := 34) rfl ?_
    refine v_ldc hC wk_X6_35 dX6_set_34 (q := 36) rfl ?_
    refine v_Vi hC lkV_X6_37 (c_X6_finds (n := 0) (by decide)) rfl (by decide) (k := 47) (by decide) hp_47 rfl rfl (Nat.le_of_ble_eq_true rfl) dX6_set_36 (q := 39) rfl ?_
    rintro _ _ ⟨rfl, rfl⟩
    refine hR _ _ _ _ ?_ dX6_set_39
    first
      | (refine ⟨?_, ?_⟩ <;> (simp [S_set, M_set, ansI, fnR, hno _ hc2]; done))
      | (refine ⟨?_, ?_⟩ <;> (simp only [S_set, M_set, hix _ hP2, if_pos hc11, ansI, fnR, hcl]; done))
      | (refine ⟨?_, ?_⟩ <;> (simp only [S_set, M_set, hix _ hP2, if_neg hc11, ansI, fnR]; done))

theorem ix_i0 : ∀ p : Fin 8, (¬ ((2 + 7 * nI p.val) < 0 ∨ 58 ≤ (2 + 7 * nI p.val).toNatClampNeg)) ∧ (2 + 7 * nI p.val).toNatClampNeg = 2 + 7 * p.val + 0 := by decide +kernel
set_option maxHeartbeats 4000000 in
set_option maxRecDepth 100000 in
theorem c_X6_becomes0 {l : Launch} {X : Gx} {S : CS} {i m : Nat → Int32} {r : Nat → Nat → Int32} {c : Nat → Int64} {p : Nat} {v : Int32} (h1 : p < 8) : Ci l X yX6_becomes cX6_becomes 4 (some .int) (rmk 0 0) [.ref (ga X 47), .int (2 + 7 * nI p), .int v] (hp X S (i, m, r, c)) (fun z g => z = pv m p 0 ∧ g = hp X S (i, pu m p 0 v, r, c)) := by
  refine ct_i (own := RX6) (lv := [some (.ref (ga X 47)), some (.int (2 + 7 * nI p)), some (.int v), none]) (by decide) rfl (Nat.le_of_ble_eq_true rfl) (Nat.le_of_ble_eq_true rfl) rfl (fun C hC hR => ?_)
  refine v_aload_n hC rfl dX6_becomes_0 (q := 1) rfl ?_
  refine v_get hC fl_X6_9 (k := 47) (by decide) hp_47 rfl dX6_becomes_1 (q := 4) rfl ?_
  refine v_iload_n hC rfl dX6_becomes_4 (q := 5) rfl ?_
  refine v_iald hC (k := 48) (by decide) hp_48 (vp_l (ix_i0 ⟨p, h1⟩).1) (ix_i0 ⟨p, h1⟩).2 dX6_becomes_5 (q := 6) rfl ?_
  refine v_istore_3 hC rfl dX6_becomes_6 (q := 7) rfl ?_
  refine v_aload_n hC rfl dX6_becomes_7 (q := 8) rfl ?_
  refine v_get hC fl_X6_9 (k := 47) (by decide) hp_47 rfl dX6_becomes_8 (q := 11) rfl ?_
  refine v_iload_n hC rfl dX6_becomes_11 (q := 12) rfl ?_
  refine v_iload_n hC rfl dX6_becomes_12 (q := 13) rfl ?_
  refine v_iast hC (k := 48) (by decide) hp_48 (vp_l (ix_i0 ⟨p, h1⟩).1) (ix_i0 ⟨p, h1⟩).2 (hpr_0 _) dX6_becomes_13 (q := 14) rfl ?_
  refine v_iload_n hC rfl dX6_becomes_14 (q := 15) rfl ?_
  refine hR _ _ _ _ ?_ dX6_becomes_15
  exact ⟨(pv_lt (by decide)).symm, rfl⟩

set_option maxHeartbeats 4000000 in
set_option maxRecDepth 100000 in
theorem c_X6_turn {l : Launch} {X : Gx} {S : CS} {i m : Nat → Int32} {r : Nat → Nat → Int32} {c : Nat → Int64} {n : Nat} (hN : m 1 = nI n) (h8 : n ≤ 8) {p kd : Int32} : Ci l X yX6_turn cX6_turn 3 (some .int) (rmk 2 44) [.ref (ga X 47), .int p, .int kd] (hp X S (i, m, r, c)) (fun z g => z = ansI (S_turn n (pv m) p kd) ∧ g = hp X S (i, M_turn n m p kd, fnR r (S_turn n (pv m) p kd), c)) := by
  refine ct_i (own := RX6) (lv := [some (.ref (ga X 47)), some (.int p), some (.int kd)]) (by decide) rfl (Nat.le_of_ble_eq_true rfl) (Nat.le_of_ble_eq_true rfl) rfl (fun C hC hR => ?_)
  have hix : ∀ P, P < n → pIx n (nI P) = some P := fun P h => pIx_nI h h8
  have hno : ∀ p, (¬ ∃ P, P < n ∧ p = nI P) → pIx n p = none := fun p h => pIx_no h8 h
  refine v_aload_n hC rfl dX6_turn_0 (q := 1) rfl ?_
  refine v_iload_n hC rfl dX6_turn_1 (q := 2) rfl ?_
  refine v_Vi hC lkV_X6_45 (c_X6_isPerson hN h8) rfl (by decide) (k := 47) (by decide) hp_47 rfl rfl (Nat.le_of_ble_eq_true rfl) dX6_turn_2 (q := 5) rfl ?_
  rintro _ _ ⟨⟨⟨P2, hP2, rfl⟩, rfl⟩ | ⟨hc2, rfl⟩, rfl⟩
  · refine v_if_eq hC dX6_turn_5 (t := 32) rfl (q := 8) rfl (fun h => absurd h (by decide)) (fun _ => ?_)
    refine v_iload_n hC rfl dX6_turn_8 (q := 9) rfl ?_
    refine v_i2l hC dX6_turn_9 (q := 10) rfl ?_
    refine v_iconst hC (v := 0) rfl dX6_turn_10 (q := 11) rfl ?_
    refine v_iconst hC (v := 5) rfl dX6_turn_11 (q := 12) rfl ?_
    refine v_Si hC lkS_X6_41 c_X6_in rfl (by decide) rfl (Nat.le_of_ble_eq_true rfl) dX6_turn_12 (q := 15) rfl ?_
    rintro _ _ ⟨⟨hc12, rfl⟩ | ⟨hc12, rfl⟩, rfl⟩
    · refine v_if_eq hC dX6_turn_15 (t := 32) rfl (q := 18) rfl (fun h => absurd h (by decide)) (fun _ => ?_)
      refine v_aload_n hC rfl dX6_turn_18 (q := 19) rfl ?_
      refine v_iconst hC (v := 2) rfl dX6_turn_19 (q := 20) rfl ?_
      refine v_bipush hC (v := 7) rfl dX6_turn_20 (q := 22) rfl ?_
      refine v_iload_n hC rfl dX6_turn_22 (q := 23) rfl ?_
      refine v_imul hC dX6_turn_23 (q := 24) rfl ?_
      refine v_iadd hC dX6_turn_24 (q := 25) rfl ?_
      refine v_iload_n hC rfl dX6_turn_25 (q := 26) rfl ?_
      refine v_Vi hC lkV_X6_84 (c_X6_becomes0 (p := P2) (by omega)) rfl (by decide) (k := 47) (by decide) hp_47 rfl rfl (Nat.le_of_ble_eq_true rfl) dX6_turn_26 (q := 29) rfl ?_
      rintro _ _ ⟨rfl, rfl⟩
      refine v_goto hC dX6_turn_29 (t := 38) rfl ?_
      refine hR _ _ _ _ ?_ dX6_turn_38
      first
        | (refine ⟨?_, ?_⟩ <;> (simp [S_turn, M_turn, ansI, fnR, hno _ hc2]; done))
        | (refine ⟨?_, ?_⟩ <;> (simp [S_turn, M_turn, ansI, fnR, hix _ hP2, *]; done))
        | (refine ⟨?_, ?_⟩ <;> (simp only [S_turn, M_turn, ansI, fnR, hix _ hP2]; grind; done))
        | (refine ⟨?_, ?_⟩ <;> (simp only [S_turn, M_turn, ansI, fnR, hix _ hP2, *]; grind; done))
    · refine v_if_eq hC dX6_turn_15 (t := 32) rfl (q := 18) rfl (fun _ => ?_) (fun h => absurd h (by decide))
      refine v_aload_n hC rfl dX6_turn_32 (q := 33) rfl ?_
      refine v_ldc hC wk_X6_35 dX6_turn_33 (q := 35) rfl ?_
      refine v_Vi hC lkV_X6_37 (c_X6_finds (n := 0) (by decide)) rfl (by decide) (k := 47) (by decide) hp_47 rfl rfl (Nat.le_of_ble_eq_true rfl) dX6_turn_35 (q := 38) rfl ?_
      rintro _ _ ⟨rfl, rfl⟩
      refine hR _ _ _ _ ?_ dX6_turn_38
      first
        | (refine ⟨?_, ?_⟩ <;> (simp [S_turn, M_turn, ansI, fnR, hno _ hc2]; done))
        | (refine ⟨?_, ?_⟩ <;> (simp [S_turn, M_turn, ansI, fnR, hix _ hP2, *]; done))
        | (refine ⟨?_, ?_⟩ <;> (simp only [S_turn, M_turn, ansI, fnR, hix _ hP2]; grind; done))
        | (refine ⟨?_, ?_⟩ <;> (simp only [S_turn, M_turn, ansI, fnR, hix _ hP2, *]; grind; done))
  · refine v_if_eq hC dX6_turn_5 (t := 32) rfl (q := 8) rfl (fun _ => ?_) (fun h => absurd h (by decide))
    refine v_aload_n hC rfl dX6_turn_32 (q := 33) rfl ?_
    refine v_ldc hC wk_X6_35 dX6_turn_33 (q := 35) rfl ?_
    refine v_Vi hC lkV_X6_37 (c_X6_finds (n := 0) (by decide)) rfl (by decide) (k := 47) (by decide) hp_47 rfl rfl (Nat.le_of_ble_eq_true rfl) dX6_turn_35 (q := 38) rfl ?_
    rintro _ _ ⟨rfl, rfl⟩
    refine hR _ _ _ _ ?_ dX6_turn_38
    first
      | (refine ⟨?_, ?_⟩ <;> (simp [S_turn, M_turn, ansI, fnR, hno _ hc2]; done))
      | (refine ⟨?_, ?_⟩ <;> (simp [S_turn, M_turn, ansI, fnR, hix _ hP2, *]; done))
      | (refine ⟨?_, ?_⟩ <;> (simp only [S_turn, M_turn, ansI, fnR, hix _ hP2]; grind; done))
      | (refine ⟨?_, ?_⟩ <;> (simp only [S_turn, M_turn, ansI, fnR, hix _ hP2, *]; grind; done))

set_option maxHeartbeats 4000000 in
set_option maxRecDepth 100000 in
theorem c_X6_as {l : Launch} {X : Gx} {S : CS} {i m : Nat → Int32} {r : Nat → Nat → Int32} {c : Nat → Int64} {n : Nat} (hN : m 1 = nI n) (h8 : n ≤ 8) {p kd : Int32} : Ci l X yX6_as cX6_as 5 (some .int) (rmk 2 44) [.ref (ga X 47), .int p, .int kd] (hp X S (i, m, r, c)) (fun z g => z = ansI (S_as n (pv m) p kd) ∧ g = hp X S (i, m, fnR r (S_as n (pv m) p kd), c)) := by
  refine ct_i (own := RX6) (lv := [some (.ref (ga X 47)), some (.int p), some (.int kd), none, none]) (by decide) rfl (Nat.le_of_ble_eq_true rfl) (Nat.le_of_ble_eq_true rfl) rfl (fun C hC hR => ?_)
  have hix : ∀ P, P < n → pIx n (nI P) = some P := fun P h => pIx_nI h h8
  have hno : ∀ p, (¬ ∃ P, P < n ∧ p = nI P) → pIx n p = none := fun p h => pIx_no h8 h
  refine v_aload_n hC rfl dX6_as_0 (q := 1) rfl ?_
  refine v_iload_n hC rfl dX6_as_1 (q := 2) rfl ?_
  refine v_Vi hC lkV_X6_45 (c_X6_isPerson hN h8) rfl (by decide) (k := 47) (by decide) hp_47 rfl rfl (Nat.le_of_ble_eq_true rfl) dX6_as_2 (q := 5) rfl ?_
  rintro _ _ ⟨⟨⟨P2, hP2, rfl⟩, rfl⟩ | ⟨hc2, rfl⟩, rfl⟩
  · refine v_if_eq hC dX6_as_5 (t := 18) rfl (q := 8) rfl (fun h => absurd h (by decide)) (fun _ => ?_)
    refine v_iload_n hC rfl dX6_as_8 (q := 9) rfl ?_
    refine v_i2l hC dX6_as_9 (q := 10) rfl ?_
    refine v_iconst hC (v := 0) rfl dX6_as_10 (q := 11) rfl ?_
    refine v_iconst hC (v := 5) rfl dX6_as_11 (q := 12) rfl ?_
    refine v_Si hC lkS_X6_41 c_X6_in rfl (by decide) rfl (Nat.le_of_ble_eq_true rfl) dX6_as_12 (q := 15) rfl ?_
    rintro _ _ ⟨⟨hc12, rfl⟩ | ⟨hc12, rfl⟩, rfl⟩
    · refine v_if_ne hC dX6_as_15 (t := 25) rfl (q := 18) rfl (fun _ => ?_) (fun h => absurd h (by decide))
      refine v_aload_n hC rfl dX6_as_25 (q := 26) rfl ?_
      refine v_iload_n hC rfl dX6_as_26 (q := 27) rfl ?_
      refine v_iconst hC (v := 0) rfl dX6_as_27 (q := 28) rfl ?_
      refine v_Vi hC lkV_X6_49 (c_X6_it (w := 0) (by first | assumption | omega) (Nat.le_of_ble_eq_true rfl)) rfl (by decide) (k := 47) (by decide) hp_47 rfl rfl (Nat.le_of_ble_eq_true rfl) dX6_as_28 (q := 31) rfl ?_
      rintro _ _ ⟨rfl, rfl⟩
      refine v_istore_3 hC rfl dX6_as_31 (q := 32) rfl ?_
      refine v_iload_n hC rfl dX6_as_32 (q := 33) rfl ?_
      refine v_if_eq hC dX6_as_33 (t := 61) rfl (q := 36) rfl (fun h33 => ?_) (fun h33 => ?_)
      · refine v_iconst hC (v := 1) rfl dX6_as_61 (q := 62) rfl ?_
        refine v_goto hC dX6_as_62 (t := 66) rfl ?_
        refine v_istore_4 hC rfl dX6_as_66 (q := 68) rfl ?_
        refine v_iload hC rfl dX6_as_68 (q := 70) rfl ?_
        refine v_if_eq hC dX6_as_70 (t := 82) rfl (q := 73) rfl (fun h => absurd h (by decide)) (fun _ => ?_)
        refine v_aload_n hC rfl dX6_as_73 (q := 74) rfl ?_
        refine v_iload_n hC rfl dX6_as_74 (q := 75) rfl ?_
        refine v_iconst hC (v := 1) rfl dX6_as_75 (q := 76) rfl ?_
        refine v_Vi hC lkV_X6_49 (c_X6_it (w := 1) (by first | assumption | omega) (Nat.le_of_ble_eq_true rfl)) rfl (by decide) (k := 47) (by decide) hp_47 rfl rfl (Nat.le_of_ble_eq_true rfl) dX6_as_76 (q := 79) rfl ?_
        rintro _ _ ⟨rfl, rfl⟩
        refine v_goto hC dX6_as_79 (t := 88) rfl ?_
        refine hR _ _ _ _ ?_ dX6_as_88
        first
          | (refine ⟨?_, ?_⟩ <;> (simp [S_as, ansI, fnR, hno _ hc2]; done))
          | (refine ⟨?_, ?_⟩ <;> (simp [S_as, ansI, fnR, hix _ hP2, *]; done))
          | (refine ⟨?_, ?_⟩ <;> (simp only [S_as, ansI, fnR, hix _ hP2]; grind; done))
          | (refine ⟨?_, ?_⟩ <;> (simp only [S_as, ansI, fnR, hix _ hP2, *]; grind; done))
      · refine v_iload_n hC rfl dX6_as_36 (q := 37) rfl ?_
        refine v_iload_n hC rfl dX6_as_37 (q := 38) rfl ?_
        refine v_icmp_eq hC dX6_as_38 (t := 61) rfl (q := 41) rfl (fun h38 => ?_) (fun h38 => ?_)
        · refine v_iconst hC (v := 1) rfl dX6_as_61 (q := 62) rfl ?_
          refine v_goto hC dX6_as_62 (t := 66) rfl ?_
          refine v_istore_4 hC rfl dX6_as_66 (q := 68) rfl ?_
          refine v_iload hC rfl dX6_as_68 (q := 70) rfl ?_
          refine v_if_eq hC dX6_as_70 (t := 82) rfl (q := 73) rfl (fun h => absurd h (by decide)) (fun _ => ?_)
          refine v_aload_n hC rfl dX6_as_73 (q := 74) rfl ?_
          refine v_iload_n hC rfl dX6_as_74 (q := 75) rfl ?_
          refine v_iconst hC (v := 1) rfl dX6_as_75 (q := 76) rfl ?_
          refine v_Vi hC lkV_X6_49 (c_X6_it (w := 1) (by first | assumption | omega) (Nat.le_of_ble_eq_true rfl)) rfl (by decide) (k := 47) (by decide) hp_47 rfl rfl (Nat.le_of_ble_eq_true rfl) dX6_as_76 (q := 79) rfl ?_
          rintro _ _ ⟨rfl, rfl⟩
          refine v_goto hC dX6_as_79 (t := 88) rfl ?_
          refine hR _ _ _ _ ?_ dX6_as_88
          first
            | (refine ⟨?_, ?_⟩ <;> (simp [S_as, ansI, fnR, hno _ hc2]; done))
            | (refine ⟨?_, ?_⟩ <;> (simp [S_as, ansI, fnR, hix _ hP2, *]; done))
            | (refine ⟨?_, ?_⟩ <;> (simp only [S_as, ansI, fnR, hix _ hP2]; grind; done))
            | (refine ⟨?_, ?_⟩ <;> (simp only [S_as, ansI, fnR, hix _ hP2, *]; grind; done))
        · refine v_iload_n hC rfl dX6_as_41 (q := 42) rfl ?_
          refine v_iconst hC (v := 1) rfl dX6_as_42 (q := 43) rfl ?_
          refine v_icmp_ne hC dX6_as_43 (t := 51) rfl (q := 46) rfl (fun h43 => ?_) (fun h43 => ?_)
          · refine v_iload_n hC rfl dX6_as_51 (q := 52) rfl ?_
            refine v_iconst hC (v := 2) rfl dX6_as_52 (q := 53) rfl ?_
            refine v_icmp_ne hC dX6_as_53 (t := 65) rfl (q := 56) rfl (fun h53 => ?_) (fun h53 => ?_)
            · refine v_iconst hC (v := 0) rfl dX6_as_65 (q := 66) rfl ?_
              refine v_istore_4 hC rfl dX6_as_66 (q := 68) rfl ?_
              refine v_iload hC rfl dX6_as_68 (q := 70) rfl ?_
              refine v_if_eq hC dX6_as_70 (t := 82) rfl (q := 73) rfl (fun _ => ?_) (fun h => absurd h (by decide))
              refine v_aload_n hC rfl dX6_as_82 (q := 83) rfl ?_
              refine v_ldc hC wk_X6_87 dX6_as_83 (q := 85) rfl ?_
              refine v_Vi hC lkV_X6_37 (c_X6_finds (n := 2) (by decide)) rfl (by decide) (k := 47) (by decide) hp_47 rfl rfl (Nat.le_of_ble_eq_true rfl) dX6_as_85 (q := 88) rfl ?_
              rintro _ _ ⟨rfl, rfl⟩
              refine hR _ _ _ _ ?_ dX6_as_88
              first
                | (refine ⟨?_, ?_⟩ <;> (simp [S_as, ansI, fnR, hno _ hc2]; done))
                | (refine ⟨?_, ?_⟩ <;> (simp [S_as, ansI, fnR, hix _ hP2, *]; done))
                | (refine ⟨?_, ?_⟩ <;> (simp only [S_as, ansI, fnR, hix _ hP2]; grind; done))
                | (refine ⟨?_, ?_⟩ <;> (simp only [S_as, ansI, fnR, hix _ hP2, *]; grind; done))
            · refine v_iload_n hC rfl dX6_as_56 (q := 57) rfl ?_
              refine v_iconst hC (v := 5) rfl dX6_as_57 (q := 58) rfl ?_
              refine v_icmp_ne hC dX6_as_58 (t := 65) rfl (q := 61) rfl (fun h58 => ?_) (fun h58 => ?_)
              · refine v_iconst hC (v := 0) rfl dX6_as_65 (q := 66) rfl ?_
                refine v_istore_4 hC rfl dX6_as_66 (q := 68) rfl ?_
                refine v_iload hC rfl dX6_as_68 (q := 70) rfl ?_
                refine v_if_eq hC dX6_as_70 (t := 82) rfl (q := 73) rfl (fun _ => ?_) (fun h => absurd h (by decide))
                refine v_aload_n hC rfl dX6_as_82 (q := 83) rfl ?_
                refine v_ldc hC wk_X6_87 dX6_as_83 (q := 85) rfl ?_
                refine v_Vi hC lkV_X6_37 (c_X6_finds (n := 2) (by decide)) rfl (by decide) (k := 47) (by decide) hp_47 rfl rfl (Nat.le_of_ble_eq_true rfl) dX6_as_85 (q := 88) rfl ?_
                rintro _ _ ⟨rfl, rfl⟩
                refine hR _ _ _ _ ?_ dX6_as_88
                first
                  | (refine ⟨?_, ?_⟩ <;> (simp [S_as, ansI, fnR, hno _ hc2]; done))
                  | (refine ⟨?_, ?_⟩ <;> (simp [S_as, ansI, fnR, hix _ hP2, *]; done))
                  | (refine ⟨?_, ?_⟩ <;> (simp only [S_as, ansI, fnR, hix _ hP2]; grind; done))
                  | (refine ⟨?_, ?_⟩ <;> (simp only [S_as, ansI, fnR, hix _ hP2, *]; grind; done))
              · refine v_iconst hC (v := 1) rfl dX6_as_61 (q := 62) rfl ?_
                refine v_goto hC dX6_as_62 (t := 66) rfl ?_
                refine v_istore_4 hC rfl dX6_as_66 (q := 68) rfl ?_
                refine v_iload hC rfl dX6_as_68 (q := 70) rfl ?_
                refine v_if_eq hC dX6_as_70 (t := 82) rfl (q := 73) rfl (fun h => absurd h (by decide)) (fun _ => ?_)
                refine v_aload_n hC rfl dX6_as_73 (q := 74) rfl ?_
                refine v_iload_n hC rfl dX6_as_74 (q := 75) rfl ?_
                refine v_iconst hC (v := 1) rfl dX6_as_75 (q := 76) rfl ?_
                refine v_Vi hC lkV_X6_49 (c_X6_it (w := 1) (by first | assumption | omega) (Nat.le_of_ble_eq_true rfl)) rfl (by decide) (k := 47) (by decide) hp_47 rfl rfl (Nat.le_of_ble_eq_true rfl) dX6_as_76 (q := 79) rfl ?_
                rintro _ _ ⟨rfl, rfl⟩
                refine v_goto hC dX6_as_79 (t := 88) rfl ?_
                refine hR _ _ _ _ ?_ dX6_as_88
                first
                  | (refine ⟨?_, ?_⟩ <;> (simp [S_as, ansI, fnR, hno _ hc2]; done))
                  | (refine ⟨?_, ?_⟩ <;> (simp [S_as, ansI, fnR, hix _ hP2, *]; done))
                  | (refine ⟨?_, ?_⟩ <;> (simp only [S_as, ansI, fnR, hix _ hP2]; grind; done))
                  | (refine ⟨?_, ?_⟩ <;> (simp only [S_as, ansI, fnR, hix _ hP2, *]; grind; done))
          · refine v_iload_n hC rfl dX6_as_46 (q := 47) rfl ?_
            refine v_iconst hC (v := 4) rfl dX6_as_47 (q := 48) rfl ?_
            refine v_icmp_eq hC dX6_as_48 (t := 61) rfl (q := 51) rfl (fun h48 => ?_) (fun h48 => ?_)
            · refine v_iconst hC (v := 1) rfl dX6_as_61 (q := 62) rfl ?_
              refine v_goto hC dX6_as_62 (t := 66) rfl ?_
              refine v_istore_4 hC rfl dX6_as_66 (q := 68) rfl ?_
              refine v_iload hC rfl dX6_as_68 (q := 70) rfl ?_
              refine v_if_eq hC dX6_as_70 (t := 82) rfl (q := 73) rfl (fun h => absurd h (by decide)) (fun _ => ?_)
              refine v_aload_n hC rfl dX6_as_73 (q := 74) rfl ?_
              refine v_iload_n hC rfl dX6_as_74 (q := 75) rfl ?_
              refine v_iconst hC (v := 1) rfl dX6_as_75 (q := 76) rfl ?_
              refine v_Vi hC lkV_X6_49 (c_X6_it (w := 1) (by first | assumption | omega) (Nat.le_of_ble_eq_true rfl)) rfl (by decide) (k := 47) (by decide) hp_47 rfl rfl (Nat.le_of_ble_eq_true rfl) dX6_as_76 (q := 79) rfl ?_
              rintro _ _ ⟨rfl, rfl⟩
              refine v_goto hC dX6_as_79 (t := 88) rfl ?_
              refine hR _ _ _ _ ?_ dX6_as_88
              first
                | (refine ⟨?_, ?_⟩ <;> (simp [S_as, ansI, fnR, hno _ hc2]; done))
                | (refine ⟨?_, ?_⟩ <;> (simp [S_as, ansI, fnR, hix _ hP2, *]; done))
                | (refine ⟨?_, ?_⟩ <;> (simp only [S_as, ansI, fnR, hix _ hP2]; grind; done))
                | (refine ⟨?_, ?_⟩ <;> (simp only [S_as, ansI, fnR, hix _ hP2, *]; grind; done))
            · refine v_iload_n hC rfl dX6_as_51 (q := 52) rfl ?_
              refine v_iconst hC (v := 2) rfl dX6_as_52 (q := 53) rfl ?_
              refine v_icmp_ne hC dX6_as_53 (t := 65) rfl (q := 56) rfl (fun h53 => ?_) (fun h53 => ?_)
              · refine v_iconst hC (v := 0) rfl dX6_as_65 (q := 66) rfl ?_
                refine v_istore_4 hC rfl dX6_as_66 (q := 68) rfl ?_
                refine v_iload hC rfl dX6_as_68 (q := 70) rfl ?_
                refine v_if_eq hC dX6_as_70 (t := 82) rfl (q := 73) rfl (fun _ => ?_) (fun h => absurd h (by decide))
                refine v_aload_n hC rfl dX6_as_82 (q := 83) rfl ?_
                refine v_ldc hC wk_X6_87 dX6_as_83 (q := 85) rfl ?_
                refine v_Vi hC lkV_X6_37 (c_X6_finds (n := 2) (by decide)) rfl (by decide) (k := 47) (by decide) hp_47 rfl rfl (Nat.le_of_ble_eq_true rfl) dX6_as_85 (q := 88) rfl ?_
                rintro _ _ ⟨rfl, rfl⟩
                refine hR _ _ _ _ ?_ dX6_as_88
                first
                  | (refine ⟨?_, ?_⟩ <;> (simp [S_as, ansI, fnR, hno _ hc2]; done))
                  | (refine ⟨?_, ?_⟩ <;> (simp [S_as, ansI, fnR, hix _ hP2, *]; done))
                  | (refine ⟨?_, ?_⟩ <;> (simp only [S_as, ansI, fnR, hix _ hP2]; grind; done))
                  | (refine ⟨?_, ?_⟩ <;> (simp only [S_as, ansI, fnR, hix _ hP2, *]; grind; done))
              · refine v_iload_n hC rfl dX6_as_56 (q := 57) rfl ?_
                refine v_iconst hC (v := 5) rfl dX6_as_57 (q := 58) rfl ?_
                refine v_icmp_ne hC dX6_as_58 (t := 65) rfl (q := 61) rfl (fun h58 => ?_) (fun h58 => ?_)
                · refine v_iconst hC (v := 0) rfl dX6_as_65 (q := 66) rfl ?_
                  refine v_istore_4 hC rfl dX6_as_66 (q := 68) rfl ?_
                  refine v_iload hC rfl dX6_as_68 (q := 70) rfl ?_
                  refine v_if_eq hC dX6_as_70 (t := 82) rfl (q := 73) rfl (fun _ => ?_) (fun h => absurd h (by decide))
                  refine v_aload_n hC rfl dX6_as_82 (q := 83) rfl ?_
                  refine v_ldc hC wk_X6_87 dX6_as_83 (q := 85) rfl ?_
                  refine v_Vi hC lkV_X6_37 (c_X6_finds (n := 2) (by decide)) rfl (by decide) (k := 47) (by decide) hp_47 rfl rfl (Nat.le_of_ble_eq_true rfl) dX6_as_85 (q := 88) rfl ?_
                  rintro _ _ ⟨rfl, rfl⟩
                  refine hR _ _ _ _ ?_ dX6_as_88
                  first
                    | (refine ⟨?_, ?_⟩ <;> (simp [S_as, ansI, fnR, hno _ hc2]; done))
                    | (refine ⟨?_, ?_⟩ <;> (simp [S_as, ansI, fnR, hix _ hP2, *]; done))
                    | (refine ⟨?_, ?_⟩ <;> (simp only [S_as, ansI, fnR, hix _ hP2]; grind; done))
                    | (refine ⟨?_, ?_⟩ <;> (simp only [S_as, ansI, fnR, hix _ hP2, *]; grind; done))
                · refine v_iconst hC (v := 1) rfl dX6_as_61 (q := 62) rfl ?_
                  refine v_goto hC dX6_as_62 (t := 66) rfl ?_
                  refine v_istore_4 hC rfl dX6_as_66 (q := 68) rfl ?_
                  refine v_iload hC rfl dX6_as_68 (q := 70) rfl ?_
                  refine v_if_eq hC dX6_as_70 (t := 82) rfl (q := 73) rfl (fun h => absurd h (by decide)) (fun _ => ?_)
                  refine v_aload_n hC rfl dX6_as_73 (q := 74) rfl ?_
                  refine v_iload_n hC rfl dX6_as_74 (q := 75) rfl ?_
                  refine v_iconst hC (v := 1) rfl dX6_as_75 (q := 76) rfl ?_
                  refine v_Vi hC lkV_X6_49 (c_X6_it (w := 1) (by first | assumption | omega) (Nat.le_of_ble_eq_true rfl)) rfl (by decide) (k := 47) (by decide) hp_47 rfl rfl (Nat.le_of_ble_eq_true rfl) dX6_as_76 (q := 79) rfl ?_
                  rintro _ _ ⟨rfl, rfl⟩
                  refine v_goto hC dX6_as_79 (t := 88) rfl ?_
                  refine hR _ _ _ _ ?_ dX6_as_88
                  first
                    | (refine ⟨?_, ?_⟩ <;> (simp [S_as, ansI, fnR, hno _ hc2]; done))
                    | (refine ⟨?_, ?_⟩ <;> (simp [S_as, ansI, fnR, hix _ hP2, *]; done))
                    | (refine ⟨?_, ?_⟩ <;> (simp only [S_as, ansI, fnR, hix _ hP2]; grind; done))
                    | (refine ⟨?_, ?_⟩ <;> (simp only [S_as, ansI, fnR, hix _ hP2, *]; grind; done))
    · refine v_if_ne hC dX6_as_15 (t := 25) rfl (q := 18) rfl (fun h => absurd h (by decide)) (fun _ => ?_)
      refine v_aload_n hC rfl dX6_as_18 (q := 19) rfl ?_
      refine v_ldc hC wk_X6_35 dX6_as_19 (q := 21) rfl ?_
      refine v_Vi hC lkV_X6_37 (c_X6_finds (n := 0) (by decide)) rfl (by decide) (k := 47) (by decide) hp_47 rfl rfl (Nat.le_of_ble_eq_true rfl) dX6_as_21 (q := 24) rfl ?_
      rintro _ _ ⟨rfl, rfl⟩
      refine hR _ _ _ _ ?_ dX6_as_24
      first
        | (refine ⟨?_, ?_⟩ <;> (simp [S_as, ansI, fnR, hno _ hc2]; done))
        | (refine ⟨?_, ?_⟩ <;> (simp [S_as, ansI, fnR, hix _ hP2, *]; done))
        | (refine ⟨?_, ?_⟩ <;> (simp only [S_as, ansI, fnR, hix _ hP2]; grind; done))
        | (refine ⟨?_, ?_⟩ <;> (simp only [S_as, ansI, fnR, hix _ hP2, *]; grind; done))
  · refine v_if_eq hC dX6_as_5 (t := 18) rfl (q := 8) rfl (fun _ => ?_) (fun h => absurd h (by decide))
    refine v_aload_n hC rfl dX6_as_18 (q := 19) rfl ?_
    refine v_ldc hC wk_X6_35 dX6_as_19 (q := 21) rfl ?_
    refine v_Vi hC lkV_X6_37 (c_X6_finds (n := 0) (by decide)) rfl (by decide) (k := 47) (by decide) hp_47 rfl rfl (Nat.le_of_ble_eq_true rfl) dX6_as_21 (q := 24) rfl ?_
    rintro _ _ ⟨rfl, rfl⟩
    refine hR _ _ _ _ ?_ dX6_as_24
    first
      | (refine ⟨?_, ?_⟩ <;> (simp [S_as, ansI, fnR, hno _ hc2]; done))
      | (refine ⟨?_, ?_⟩ <;> (simp [S_as, ansI, fnR, hix _ hP2, *]; done))
      | (refine ⟨?_, ?_⟩ <;> (simp only [S_as, ansI, fnR, hix _ hP2]; grind; done))
      | (refine ⟨?_, ?_⟩ <;> (simp only [S_as, ansI, fnR, hix _ hP2, *]; grind; done))

set_option maxHeartbeats 4000000 in
set_option maxRecDepth 100000 in
theorem c_X6_grind {l : Launch} {X : Gx} {S : CS} {i m : Nat → Int32} {r : Nat → Nat → Int32} {c : Nat → Int64} {n : Nat} (hN : m 1 = nI n) (h8 : n ≤ 8) {p : Int32} : Ci l X yX6_grind cX6_grind 2 (some .int) (rmk 3 66) [.ref (ga X 47), .int p] (hp X S (i, m, r, c)) (fun z g => z = ansI (S_grind n (pv m) p) ∧ g = hp X S (i, M_grind n m p, fnR r (S_grind n (pv m) p), c)) := by
  refine ct_i (own := RX6) (lv := [some (.ref (ga X 47)), some (.int p)]) (by decide) rfl (Nat.le_of_ble_eq_true rfl) (Nat.le_of_ble_eq_true rfl) rfl (fun C hC hR => ?_)
  have hix : ∀ P, P < n → pIx n (nI P) = some P := fun P h => pIx_nI h h8
  have hno : ∀ p, (¬ ∃ P, P < n ∧ p = nI P) → pIx n p = none := fun p h => pIx_no h8 h
  refine v_aload_n hC rfl dX6_grind_0 (q := 1) rfl ?_
  refine v_iload_n hC rfl dX6_grind_1 (q := 2) rfl ?_
  refine v_Vi hC lkV_X6_45 (c_X6_isPerson hN h8) rfl (by decide) (k := 47) (by decide) hp_47 rfl rfl (Nat.le_of_ble_eq_true rfl) dX6_grind_2 (q := 5) rfl ?_
  rintro _ _ ⟨⟨⟨P2, hP2, rfl⟩, rfl⟩ | ⟨hc2, rfl⟩, rfl⟩
  · refine v_if_ne hC dX6_grind_5 (t := 15) rfl (q := 8) rfl (fun _ => ?_) (fun h => absurd h (by decide))
    refine v_aload_n hC rfl dX6_grind_15 (q := 16) rfl ?_
    refine v_iload_n hC rfl dX6_grind_16 (q := 17) rfl ?_
    refine v_iconst hC (v := 2) rfl dX6_grind_17 (q := 18) rfl ?_
    refine v_Vi hC lkV_X6_49 (c_X6_it (w := 2) (by first | assumption | omega) (Nat.le_of_ble_eq_true rfl)) rfl (by decide) (k := 47) (by decide) hp_47 rfl rfl (Nat.le_of_ble_eq_true rfl) dX6_grind_18 (q := 21) rfl ?_
    rintro _ _ ⟨rfl, rfl⟩
    refine v_if_ge hC dX6_grind_21 (t := 33) rfl (q := 24) rfl (fun h21 => ?_) (fun h21 => ?_)
    · refine v_aload_n hC rfl dX6_grind_33 (q := 34) rfl ?_
      refine v_iload_n hC rfl dX6_grind_34 (q := 35) rfl ?_
      refine v_Vi hC lkV_X6_89 (c_X6_isGround (by omega)) rfl (by decide) (k := 47) (by decide) hp_47 rfl rfl (Nat.le_of_ble_eq_true rfl) dX6_grind_35 (q := 38) rfl ?_
      rintro _ _ ⟨rfl, rfl⟩
      refine hR _ _ _ _ ?_ dX6_grind_38
      first
        | (refine ⟨?_, ?_⟩ <;> (simp [S_grind, M_grind, ansI, fnR, hno _ hc2]; done))
        | (refine ⟨?_, ?_⟩ <;> (simp [S_grind, M_grind, ansI, fnR, hix _ hP2, *]; done))
        | (refine ⟨?_, ?_⟩ <;> (simp only [S_grind, M_grind, ansI, fnR, hix _ hP2]; grind; done))
        | (refine ⟨?_, ?_⟩ <;> (simp only [S_grind, M_grind, ansI, fnR, hix _ hP2, *]; grind; done))
    · refine v_aload_n hC rfl dX6_grind_24 (q := 25) rfl ?_
      refine v_ldc hC wk_X6_88 dX6_grind_25 (q := 27) rfl ?_
      refine v_Vi hC lkV_X6_37 (c_X6_finds (n := 4) (by decide)) rfl (by decide) (k := 47) (by decide) hp_47 rfl rfl (Nat.le_of_ble_eq_true rfl) dX6_grind_27 (q := 30) rfl ?_
      rintro _ _ ⟨rfl, rfl⟩
      refine v_goto hC dX6_grind_30 (t := 38) rfl ?_
      refine hR _ _ _ _ ?_ dX6_grind_38
      first
        | (refine ⟨?_, ?_⟩ <;> (simp [S_grind, M_grind, ansI, fnR, hno _ hc2]; done))
        | (refine ⟨?_, ?_⟩ <;> (simp [S_grind, M_grind, ansI, fnR, hix _ hP2, *]; done))
        | (refine ⟨?_, ?_⟩ <;> (simp only [S_grind, M_grind, ansI, fnR, hix _ hP2]; grind; done))
        | (refine ⟨?_, ?_⟩ <;> (simp only [S_grind, M_grind, ansI, fnR, hix _ hP2, *]; grind; done))
  · refine v_if_ne hC dX6_grind_5 (t := 15) rfl (q := 8) rfl (fun h => absurd h (by decide)) (fun _ => ?_)
    refine v_aload_n hC rfl dX6_grind_8 (q := 9) rfl ?_
    refine v_ldc hC wk_X6_35 dX6_grind_9 (q := 11) rfl ?_
    refine v_Vi hC lkV_X6_37 (c_X6_finds (n := 0) (by decide)) rfl (by decide) (k := 47) (by decide) hp_47 rfl rfl (Nat.le_of_ble_eq_true rfl) dX6_grind_11 (q := 14) rfl ?_
    rintro _ _ ⟨rfl, rfl⟩
    refine hR _ _ _ _ ?_ dX6_grind_14
    first
      | (refine ⟨?_, ?_⟩ <;> (simp [S_grind, M_grind, ansI, fnR, hno _ hc2]; done))
      | (refine ⟨?_, ?_⟩ <;> (simp [S_grind, M_grind, ansI, fnR, hix _ hP2, *]; done))
      | (refine ⟨?_, ?_⟩ <;> (simp only [S_grind, M_grind, ansI, fnR, hix _ hP2]; grind; done))
      | (refine ⟨?_, ?_⟩ <;> (simp only [S_grind, M_grind, ansI, fnR, hix _ hP2, *]; grind; done))

set_option maxHeartbeats 4000000 in
set_option maxRecDepth 100000 in
theorem c_X6_lend {l : Launch} {X : Gx} {S : CS} {i m : Nat → Int32} {r : Nat → Nat → Int32} {c : Nat → Int64} {n : Nat} (hN : m 1 = nI n) (h8 : n ≤ 8) {p q : Int32} : Ci l X yX6_lend cX6_lend 3 (some .int) (rmk 3 66) [.ref (ga X 47), .int p, .int q] (hp X S (i, m, r, c)) (fun z g => z = ansI (S_lend n p q) ∧ g = hp X S (i, M_lend n m p q, fnR r (S_lend n p q), c)) := by
  refine ct_i (own := RX6) (lv := [some (.ref (ga X 47)), some (.int p), some (.int q)]) (by decide) rfl (Nat.le_of_ble_eq_true rfl) (Nat.le_of_ble_eq_true rfl) rfl (fun C hC hR => ?_)
  have hix : ∀ P Q, P < n → Q < n → P ≠ Q → pTw n (nI P) (nI Q) = some (P, Q) := fun P Q a b c => pTw_nI h8 a b c
  have hno : ∀ p q, (¬ ∃ P Q, P < n ∧ Q < n ∧ P ≠ Q ∧ p = nI P ∧ q = nI Q) → pTw n p q = none := fun p q h => pTw_no h8 h
  refine v_aload_n hC rfl dX6_lend_0 (q := 1) rfl ?_
  refine v_iload_n hC rfl dX6_lend_1 (q := 2) rfl ?_
  refine v_iload_n hC rfl dX6_lend_2 (q := 3) rfl ?_
  refine v_Vi hC lkV_X6_92 (c_X6_areTwo hN h8) rfl (by decide) (k := 47) (by decide) hp_47 rfl rfl (Nat.le_of_ble_eq_true rfl) dX6_lend_3 (q := 6) rfl ?_
  rintro _ _ ⟨⟨⟨P3, Q3, hP3, hQ3, hne3, rfl, rfl⟩, rfl⟩ | ⟨hc3, rfl⟩, rfl⟩
  · refine v_if_ne hC dX6_lend_6 (t := 16) rfl (q := 9) rfl (fun _ => ?_) (fun h => absurd h (by decide))
    refine v_aload_n hC rfl dX6_lend_16 (q := 17) rfl ?_
    refine v_iload_n hC rfl dX6_lend_17 (q := 18) rfl ?_
    refine v_iload_n hC rfl dX6_lend_18 (q := 19) rfl ?_
    refine v_Vv hC lkV_X6_95 (c_X6_lends (by omega) (by omega)) rfl (by decide) (k := 47) (by decide) hp_47 rfl rfl (Nat.le_of_ble_eq_true rfl) dX6_lend_19 (q := 22) rfl ?_
    rintro _ rfl
    refine v_iconst hC (v := 1) rfl dX6_lend_22 (q := 23) rfl ?_
    refine hR _ _ _ _ ?_ dX6_lend_23
    first
      | (refine ⟨?_, ?_⟩ <;> (simp [S_lend, M_lend, swap3, ansI, fnR, hno _ _ hc3]; done))
      | (refine ⟨?_, ?_⟩ <;> (simp [S_lend, M_lend, swap3, ansI, fnR, hix _ _ hP3 hQ3 hne3, *]; done))
  · refine v_if_ne hC dX6_lend_6 (t := 16) rfl (q := 9) rfl (fun h => absurd h (by decide)) (fun _ => ?_)
    refine v_aload_n hC rfl dX6_lend_9 (q := 10) rfl ?_
    refine v_ldc hC wk_X6_35 dX6_lend_10 (q := 12) rfl ?_
    refine v_Vi hC lkV_X6_37 (c_X6_finds (n := 0) (by decide)) rfl (by decide) (k := 47) (by decide) hp_47 rfl rfl (Nat.le_of_ble_eq_true rfl) dX6_lend_12 (q := 15) rfl ?_
    rintro _ _ ⟨rfl, rfl⟩
    refine hR _ _ _ _ ?_ dX6_lend_15
    first
      | (refine ⟨?_, ?_⟩ <;> (simp [S_lend, M_lend, swap3, ansI, fnR, hno _ _ hc3]; done))
      | (refine ⟨?_, ?_⟩ <;> (simp [S_lend, M_lend, swap3, ansI, fnR, hix _ _ hP3 hQ3 hne3, *]; done))

set_option maxHeartbeats 4000000 in
set_option maxRecDepth 100000 in
theorem c_X6_looks {l : Launch} {X : Gx} {S : CS} {i m : Nat → Int32} {r : Nat → Nat → Int32} {c : Nat → Int64} {n : Nat} (hN : m 1 = nI n) (h8 : n ≤ 8) {p q : Int32} : Ci l X yX6_looks cX6_looks 3 (some .int) (rmk 3 66) [.ref (ga X 47), .int p, .int q] (hp X S (i, m, r, c)) (fun z g => z = ansI (S_looks n (pv m) p q) ∧ g = hp X S (i, m, fnR r (S_looks n (pv m) p q), c)) := by
  refine ct_i (own := RX6) (lv := [some (.ref (ga X 47)), some (.int p), some (.int q)]) (by decide) rfl (Nat.le_of_ble_eq_true rfl) (Nat.le_of_ble_eq_true rfl) rfl (fun C hC hR => ?_)
  have hix : ∀ P Q, P < n → Q < n → P ≠ Q → pTw n (nI P) (nI Q) = some (P, Q) := fun P Q a b c => pTw_nI h8 a b c
  have hno : ∀ p q, (¬ ∃ P Q, P < n ∧ Q < n ∧ P ≠ Q ∧ p = nI P ∧ q = nI Q) → pTw n p q = none := fun p q h => pTw_no h8 h
  refine v_aload_n hC rfl dX6_looks_0 (q := 1) rfl ?_
  refine v_iload_n hC rfl dX6_looks_1 (q := 2) rfl ?_
  refine v_iload_n hC rfl dX6_looks_2 (q := 3) rfl ?_
  refine v_Vi hC lkV_X6_92 (c_X6_areTwo hN h8) rfl (by decide) (k := 47) (by decide) hp_47 rfl rfl (Nat.le_of_ble_eq_true rfl) dX6_looks_3 (q := 6) rfl ?_
  rintro _ _ ⟨⟨⟨P3, Q3, hP3, hQ3, hne3, rfl, rfl⟩, rfl⟩ | ⟨hc3, rfl⟩, rfl⟩
  · refine v_if_eq hC dX6_looks_6 (t := 18) rfl (q := 9) rfl (fun h => absurd h (by decide)) (fun _ => ?_)
    refine v_aload_n hC rfl dX6_looks_9 (q := 10) rfl ?_
    refine v_iload_n hC rfl dX6_looks_10 (q := 11) rfl ?_
    refine v_iload_n hC rfl dX6_looks_11 (q := 12) rfl ?_
    refine v_Vi hC lkV_X6_57 (c_X6_looksAt (by omega)) rfl (by decide) (k := 47) (by decide) hp_47 rfl rfl (Nat.le_of_ble_eq_true rfl) dX6_looks_12 (q := 15) rfl ?_
    rintro _ _ ⟨rfl, rfl⟩
    refine v_goto hC dX6_looks_15 (t := 24) rfl ?_
    refine hR _ _ _ _ ?_ dX6_looks_24
    first
      | (refine ⟨?_, ?_⟩ <;> (simp [S_looks, ansI, fnR, hno _ _ hc3]; done))
      | (refine ⟨?_, ?_⟩ <;> (simp [S_looks, ansI, fnR, hix _ _ hP3 hQ3 hne3, *]; done))
  · refine v_if_eq hC dX6_looks_6 (t := 18) rfl (q := 9) rfl (fun _ => ?_) (fun h => absurd h (by decide))
    refine v_aload_n hC rfl dX6_looks_18 (q := 19) rfl ?_
    refine v_ldc hC wk_X6_35 dX6_looks_19 (q := 21) rfl ?_
    refine v_Vi hC lkV_X6_37 (c_X6_finds (n := 0) (by decide)) rfl (by decide) (k := 47) (by decide) hp_47 rfl rfl (Nat.le_of_ble_eq_true rfl) dX6_looks_21 (q := 24) rfl ?_
    rintro _ _ ⟨rfl, rfl⟩
    refine hR _ _ _ _ ?_ dX6_looks_24
    first
      | (refine ⟨?_, ?_⟩ <;> (simp [S_looks, ansI, fnR, hno _ _ hc3]; done))
      | (refine ⟨?_, ?_⟩ <;> (simp [S_looks, ansI, fnR, hix _ _ hP3 hQ3 hne3, *]; done))

set_option maxHeartbeats 4000000 in
set_option maxRecDepth 100000 in
theorem c_X6_sees {l : Launch} {X : Gx} {S : CS} {i m : Nat → Int32} {r : Nat → Nat → Int32} {c : Nat → Int64} {n : Nat} (hN : m 1 = nI n) (h8 : n ≤ 8) {p v : Int32} : Ci l X yX6_sees cX6_sees 3 (some .int) (rmk 3 72) [.ref (ga X 47), .int p, .int v] (hp X S (i, m, r, c)) (fun z g => z = ansI (S_sees n (pv m) p v) ∧ g = hp X S (i, m, fnR r (S_sees n (pv m) p v), c)) := by
  refine ct_i (own := RX6) (lv := [some (.ref (ga X 47)), some (.int p), some (.int v)]) (by decide) rfl (Nat.le_of_ble_eq_true rfl) (Nat.le_of_ble_eq_true rfl) rfl (fun C hC hR => ?_)
  have hix : ∀ P, P < n → pIx n (nI P) = some P := fun P h => pIx_nI h h8
  have hno : ∀ p, (¬ ∃ P, P < n ∧ p = nI P) → pIx n p = none := fun p h => pIx_no h8 h
  refine v_aload_n hC rfl dX6_sees_0 (q := 1) rfl ?_
  refine v_iload_n hC rfl dX6_sees_1 (q := 2) rfl ?_
  refine v_Vi hC lkV_X6_45 (c_X6_isPerson hN h8) rfl (by decide) (k := 47) (by decide) hp_47 rfl rfl (Nat.le_of_ble_eq_true rfl) dX6_sees_2 (q := 5) rfl ?_
  rintro _ _ ⟨⟨⟨P2, hP2, rfl⟩, rfl⟩ | ⟨hc2, rfl⟩, rfl⟩
  · refine v_if_eq hC dX6_sees_5 (t := 29) rfl (q := 8) rfl (fun h => absurd h (by decide)) (fun _ => ?_)
    refine v_iload_n hC rfl dX6_sees_8 (q := 9) rfl ?_
    refine v_i2l hC dX6_sees_9 (q := 10) rfl ?_
    refine v_iconst hC (v := 0) rfl dX6_sees_10 (q := 11) rfl ?_
    refine v_sipush hC (v := 198) rfl dX6_sees_11 (q := 14) rfl ?_
    refine v_Si hC lkS_X6_41 c_X6_in rfl (by decide) rfl (Nat.le_of_ble_eq_true rfl) dX6_sees_14 (q := 17) rfl ?_
    rintro _ _ ⟨⟨hc14, rfl⟩ | ⟨hc14, rfl⟩, rfl⟩
    · refine v_if_eq hC dX6_sees_17 (t := 29) rfl (q := 20) rfl (fun h => absurd h (by decide)) (fun _ => ?_)
      refine v_aload_n hC rfl dX6_sees_20 (q := 21) rfl ?_
      refine v_iload_n hC rfl dX6_sees_21 (q := 22) rfl ?_
      refine v_iload_n hC rfl dX6_sees_22 (q := 23) rfl ?_
      refine v_Vi hC lkV_X6_99 (c_X6_seesBy hN h8 (by omega)) rfl (by decide) (k := 47) (by decide) hp_47 rfl rfl (Nat.le_of_ble_eq_true rfl) dX6_sees_23 (q := 26) rfl ?_
      rintro _ _ ⟨rfl, rfl⟩
      refine v_goto hC dX6_sees_26 (t := 35) rfl ?_
      refine hR _ _ _ _ ?_ dX6_sees_35
      first
        | (refine ⟨?_, ?_⟩ <;> (simp [S_sees, ansI, fnR, hno _ hc2]; done))
        | (refine ⟨?_, ?_⟩ <;> (simp [S_sees, ansI, fnR, hix _ hP2, *]; done))
        | (refine ⟨?_, ?_⟩ <;> (simp only [S_sees, ansI, fnR, hix _ hP2]; grind; done))
        | (refine ⟨?_, ?_⟩ <;> (simp only [S_sees, ansI, fnR, hix _ hP2, *]; grind; done))
    · refine v_if_eq hC dX6_sees_17 (t := 29) rfl (q := 20) rfl (fun _ => ?_) (fun h => absurd h (by decide))
      refine v_aload_n hC rfl dX6_sees_29 (q := 30) rfl ?_
      refine v_ldc hC wk_X6_35 dX6_sees_30 (q := 32) rfl ?_
      refine v_Vi hC lkV_X6_37 (c_X6_finds (n := 0) (by decide)) rfl (by decide) (k := 47) (by decide) hp_47 rfl rfl (Nat.le_of_ble_eq_true rfl) dX6_sees_32 (q := 35) rfl ?_
      rintro _ _ ⟨rfl, rfl⟩
      refine hR _ _ _ _ ?_ dX6_sees_35
      first
        | (refine ⟨?_, ?_⟩ <;> (simp [S_sees, ansI, fnR, hno _ hc2]; done))
        | (refine ⟨?_, ?_⟩ <;> (simp [S_sees, ansI, fnR, hix _ hP2, *]; done))
        | (refine ⟨?_, ?_⟩ <;> (simp only [S_sees, ansI, fnR, hix _ hP2]; grind; done))
        | (refine ⟨?_, ?_⟩ <;> (simp only [S_sees, ansI, fnR, hix _ hP2, *]; grind; done))
  · refine v_if_eq hC dX6_sees_5 (t := 29) rfl (q := 8) rfl (fun _ => ?_) (fun h => absurd h (by decide))
    refine v_aload_n hC rfl dX6_sees_29 (q := 30) rfl ?_
    refine v_ldc hC wk_X6_35 dX6_sees_30 (q := 32) rfl ?_
    refine v_Vi hC lkV_X6_37 (c_X6_finds (n := 0) (by decide)) rfl (by decide) (k := 47) (by decide) hp_47 rfl rfl (Nat.le_of_ble_eq_true rfl) dX6_sees_32 (q := 35) rfl ?_
    rintro _ _ ⟨rfl, rfl⟩
    refine hR _ _ _ _ ?_ dX6_sees_35
    first
      | (refine ⟨?_, ?_⟩ <;> (simp [S_sees, ansI, fnR, hno _ hc2]; done))
      | (refine ⟨?_, ?_⟩ <;> (simp [S_sees, ansI, fnR, hix _ hP2, *]; done))
      | (refine ⟨?_, ?_⟩ <;> (simp only [S_sees, ansI, fnR, hix _ hP2]; grind; done))
      | (refine ⟨?_, ?_⟩ <;> (simp only [S_sees, ansI, fnR, hix _ hP2, *]; grind; done))

set_option maxHeartbeats 4000000 in
set_option maxRecDepth 100000 in
theorem c_X6_days {l : Launch} {X : Gx} {S : CS} {i m : Nat → Int32} {r : Nat → Nat → Int32} {c : Nat → Int64} {n : Nat} (hN : m 1 = nI n) (h8 : n ≤ 8) {k : Int32} : Ci l X yX6_days cX6_days 2 (some .int) (rmk 6 137) [.ref (ga X 47), .int k] (hp X S (i, m, r, c)) (fun z g => z = ansI (S_days n (pv (M_days n m k)) (m 0) k) ∧ g = hp X S (i, M_days n m k, fnR r (S_days n (pv (M_days n m k)) (m 0) k), c)) := by
  refine ct_i (own := RX6) (lv := [some (.ref (ga X 47)), some (.int k)]) (by decide) rfl (Nat.le_of_ble_eq_true rfl) (Nat.le_of_ble_eq_true rfl) rfl (fun C hC hR => ?_)
  refine v_iload_n hC rfl dX6_days_0 (q := 1) rfl ?_
  refine v_i2l hC dX6_days_1 (q := 2) rfl ?_
  refine v_iconst hC (v := 1) rfl dX6_days_2 (q := 3) rfl ?_
  refine v_bipush hC (v := 100) rfl dX6_days_3 (q := 5) rfl ?_
  refine v_Si hC lkS_X6_41 c_X6_in rfl (by decide) rfl (Nat.le_of_ble_eq_true rfl) dX6_days_5 (q := 8) rfl ?_
  rintro _ _ ⟨⟨hc5, rfl⟩ | ⟨hc5, rfl⟩, rfl⟩
  · refine v_if_ne hC dX6_days_8 (t := 18) rfl (q := 11) rfl (fun _ => ?_) (fun h => absurd h (by decide))
    refine v_aload_n hC rfl dX6_days_18 (q := 19) rfl ?_
    refine v_get hC fl_X6_9 (k := 47) (by decide) hp_47 rfl dX6_days_19 (q := 22) rfl ?_
    refine v_iconst hC (v := 0) rfl dX6_days_22 (q := 23) rfl ?_
    refine v_iald hC (k := 48) (by decide) hp_48 (vp_l (by decide)) (j := 0) rfl dX6_days_23 (q := 24) rfl ?_
    refine v_iload_n hC rfl dX6_days_24 (q := 25) rfl ?_
    refine v_iadd hC dX6_days_25 (q := 26) rfl ?_
    refine v_sipush hC (v := 9999) rfl dX6_days_26 (q := 29) rfl ?_
    refine v_icmp_le hC dX6_days_29 (t := 39) rfl (q := 32) rfl (fun h29 => ?_) (fun h29 => ?_)
    · obtain ⟨K, hK0, hK, rfl⟩ := w_of' (a := 1) (N := 100) (by decide) (by decide) hc5.1 hc5.2
      have hcl : (nI K).toNatClampNeg = K := nI_clamp (by omega)
      refine v_aload_n hC rfl dX6_days_39 (q := 40) rfl ?_
      refine v_iload_n hC rfl dX6_days_40 (q := 41) rfl ?_
      refine v_Vv hC lkV_X6_105 (c_X6_goesFor hN h8 (k := K) (by omega)) rfl (by decide) (k := 47) (by decide) hp_47 rfl rfl (Nat.le_of_ble_eq_true rfl) dX6_days_41 (q := 44) rfl ?_
      rintro _ rfl
      refine v_aload_n hC rfl dX6_days_44 (q := 45) rfl ?_
      refine v_iconst hC (v := 1) rfl dX6_days_45 (q := 46) rfl ?_
      refine v_Vi hC lkV_X6_109 (c_X6_sums ((goN_1 K).trans hN) h8 (w := 1) (by decide)) rfl (by decide) (k := 47) (by decide) hp_47 rfl rfl (Nat.le_of_ble_eq_true rfl) dX6_days_46 (q := 49) rfl ?_
      rintro _ _ ⟨rfl, rfl⟩
      refine hR _ _ _ _ ?_ dX6_days_49
      first
        | (refine ⟨?_, ?_⟩ <;> (simp [S_days, M_days, ansI, fnR, hc5]; done))
        | (refine ⟨?_, ?_⟩ <;> (simp only [S_days, M_days, if_pos hc5, if_pos h29, ansI, fnR, hcl]; done))
        | (refine ⟨?_, ?_⟩ <;> (simp only [S_days, M_days, if_pos hc5, if_neg h29, ansI, fnR]; done))
    · refine v_aload_n hC rfl dX6_days_32 (q := 33) rfl ?_
      refine v_ldc hC wk_X6_88 dX6_days_33 (q := 35) rfl ?_
      refine v_Vi hC lkV_X6_37 (c_X6_finds (n := 4) (by decide)) rfl (by decide) (k := 47) (by decide) hp_47 rfl rfl (Nat.le_of_ble_eq_true rfl) dX6_days_35 (q := 38) rfl ?_
      rintro _ _ ⟨rfl, rfl⟩
      refine hR _ _ _ _ ?_ dX6_days_38
      first
        | (refine ⟨?_, ?_⟩ <;> (simp [S_days, M_days, ansI, fnR, hc5]; done))
        | (refine ⟨?_, ?_⟩ <;> (simp only [S_days, M_days, if_pos hc5, if_pos h29, ansI, fnR, hcl]; done))
        | (refine ⟨?_, ?_⟩ <;> (simp only [S_days, M_days, if_pos hc5, if_neg h29, ansI, fnR]; done))
  · refine v_if_ne hC dX6_days_8 (t := 18) rfl (q := 11) rfl (fun h => absurd h (by decide)) (fun _ => ?_)
    refine v_aload_n hC rfl dX6_days_11 (q := 12) rfl ?_
    refine v_ldc hC wk_X6_35 dX6_days_12 (q := 14) rfl ?_
    refine v_Vi hC lkV_X6_37 (c_X6_finds (n := 0) (by decide)) rfl (by decide) (k := 47) (by decide) hp_47 rfl rfl (Nat.le_of_ble_eq_true rfl) dX6_days_14 (q := 17) rfl ?_
    rintro _ _ ⟨rfl, rfl⟩
    refine hR _ _ _ _ ?_ dX6_days_17
    first
      | (refine ⟨?_, ?_⟩ <;> (simp [S_days, M_days, ansI, fnR, hc5]; done))
      | (refine ⟨?_, ?_⟩ <;> (simp only [S_days, M_days, if_pos hc5, if_pos h29, ansI, fnR, hcl]; done))
      | (refine ⟨?_, ?_⟩ <;> (simp only [S_days, M_days, if_pos hc5, if_neg h29, ansI, fnR]; done))

set_option maxHeartbeats 4000000 in
set_option maxRecDepth 100000 in
theorem c_X6_now {l : Launch} {X : Gx} {S : CS} {i m : Nat → Int32} {r : Nat → Nat → Int32} {c : Nat → Int64} {n : Nat} (hN : m 1 = nI n) (h8 : n ≤ 8) {w : Int32} : Ci l X yX6_now cX6_now 2 (some .int) (rmk 4 94) [.ref (ga X 47), .int w] (hp X S (i, m, r, c)) (fun z g => z = ansI (S_now n (pv m) (m 0) w) ∧ g = hp X S (i, m, fnR r (S_now n (pv m) (m 0) w), c)) := by
  refine ct_i (own := RX6) (lv := [some (.ref (ga X 47)), some (.int w)]) (by decide) rfl (Nat.le_of_ble_eq_true rfl) (Nat.le_of_ble_eq_true rfl) rfl (fun C hC hR => ?_)
  refine v_iload_n hC rfl dX6_now_0 (q := 1) rfl ?_
  refine v_em 0 (fun hs1_0 => ?_) (fun hs1_0 => ?_)
  · refine v_tin hC dX6_now_1 (by decide) (by decide) rfl (t := 36) rfl ?_
    refine v_aload_n hC rfl dX6_now_36 (q := 37) rfl ?_
    refine v_get hC fl_X6_9 (k := 47) (by decide) hp_47 rfl dX6_now_37 (q := 40) rfl ?_
    refine v_iconst hC (v := 0) rfl dX6_now_40 (q := 41) rfl ?_
    refine v_iald hC (k := 48) (by decide) hp_48 (vp_l (by decide)) (j := 0) rfl dX6_now_41 (q := 42) rfl ?_
    refine hR _ _ _ _ ?_ dX6_now_42
    first
      | (refine ⟨?_, ?_⟩ <;> (simp [S_now, ansI, fnR, *]; done))
  refine v_em 1 (fun hs1_1 => ?_) (fun hs1_1 => ?_)
  · refine v_tin hC dX6_now_1 (by decide) (by decide) rfl (t := 43) rfl ?_
    refine v_aload_n hC rfl dX6_now_43 (q := 44) rfl ?_
    refine v_iconst hC (v := 1) rfl dX6_now_44 (q := 45) rfl ?_
    refine v_Vi hC lkV_X6_109 (c_X6_sums hN h8 (w := 1) (by decide)) rfl (by decide) (k := 47) (by decide) hp_47 rfl rfl (Nat.le_of_ble_eq_true rfl) dX6_now_45 (q := 48) rfl ?_
    rintro _ _ ⟨rfl, rfl⟩
    refine hR _ _ _ _ ?_ dX6_now_48
    first
      | (refine ⟨?_, ?_⟩ <;> (simp [S_now, ansI, fnR, *]; done))
  refine v_em 2 (fun hs1_2 => ?_) (fun hs1_2 => ?_)
  · refine v_tin hC dX6_now_1 (by decide) (by decide) rfl (t := 49) rfl ?_
    refine v_aload_n hC rfl dX6_now_49 (q := 50) rfl ?_
    refine v_iconst hC (v := 1) rfl dX6_now_50 (q := 51) rfl ?_
    refine v_iconst hC (v := 0) rfl dX6_now_51 (q := 52) rfl ?_
    refine v_Vi hC lkV_X6_112 (c_X6_thoseWith hN h8 (w := 1) (by decide)) rfl (by decide) (k := 47) (by decide) hp_47 rfl rfl (Nat.le_of_ble_eq_true rfl) dX6_now_52 (q := 55) rfl ?_
    rintro _ _ ⟨rfl, rfl⟩
    refine hR _ _ _ _ ?_ dX6_now_55
    first
      | (refine ⟨?_, ?_⟩ <;> (simp [S_now, ansI, fnR, *]; done))
  refine v_em 3 (fun hs1_3 => ?_) (fun hs1_3 => ?_)
  · refine v_tin hC dX6_now_1 (by decide) (by decide) rfl (t := 56) rfl ?_
    refine v_aload_n hC rfl dX6_now_56 (q := 57) rfl ?_
    refine v_Vi hC lkV_X6_115 (c_X6_seen hN h8) rfl (by decide) (k := 47) (by decide) hp_47 rfl rfl (Nat.le_of_ble_eq_true rfl) dX6_now_57 (q := 60) rfl ?_
    rintro _ _ ⟨rfl, rfl⟩
    refine hR _ _ _ _ ?_ dX6_now_60
    first
      | (refine ⟨?_, ?_⟩ <;> (simp [S_now, ansI, fnR, *]; done))
  refine v_em 4 (fun hs1_4 => ?_) (fun hs1_4 => ?_)
  · refine v_tin hC dX6_now_1 (by decide) (by decide) rfl (t := 61) rfl ?_
    refine v_aload_n hC rfl dX6_now_61 (q := 62) rfl ?_
    refine v_iconst hC (v := 3) rfl dX6_now_62 (q := 63) rfl ?_
    refine v_iconst hC (v := 1) rfl dX6_now_63 (q := 64) rfl ?_
    refine v_Vi hC lkV_X6_112 (c_X6_thoseWith hN h8 (w := 3) (by decide)) rfl (by decide) (k := 47) (by decide) hp_47 rfl rfl (Nat.le_of_ble_eq_true rfl) dX6_now_64 (q := 67) rfl ?_
    rintro _ _ ⟨rfl, rfl⟩
    refine hR _ _ _ _ ?_ dX6_now_67
    first
      | (refine ⟨?_, ?_⟩ <;> (simp [S_now, ansI, fnR, *]; done))
  refine v_tout hC dX6_now_1 (sw_out_0_4 hs1_0 hs1_1 hs1_2 hs1_3 hs1_4) (t := 68) rfl ?_
  refine v_aload_n hC rfl dX6_now_68 (q := 69) rfl ?_
  refine v_ldc hC wk_X6_35 dX6_now_69 (q := 71) rfl ?_
  refine v_Vi hC lkV_X6_37 (c_X6_finds (n := 0) (by decide)) rfl (by decide) (k := 47) (by decide) hp_47 rfl rfl (Nat.le_of_ble_eq_true rfl) dX6_now_71 (q := 74) rfl ?_
  rintro _ _ ⟨rfl, rfl⟩
  refine hR _ _ _ _ ?_ dX6_now_74
  first
    | (refine ⟨?_, ?_⟩ <;> (simp [S_now, ansI, fnR, *]; done))
