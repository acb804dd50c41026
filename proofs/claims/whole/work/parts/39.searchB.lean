set_option maxHeartbeats 4000000 in
set_option maxRecDepth 100000 in
theorem c_X5_daysOrNone {l : Launch} {X : Gx} {M : MS} {q nu : Nat → Nat → Int32} {vc : Nat → Nat → Nat → Int32} {sb : Nat → Nat → Int32} {tp by_ : Nat → Int32} {sh : Nat → Nat → Int32} {nn : Nat → Nat → Int64} {fo : Nat → Int32} {kp : Int32} {e : Option Nat} (he : ∀ k, e = some k → k < 201) : Ci l X yX5_daysOrNone cX5_daysOrNone 2 (some .int) (rmk 1 22) [.ref (ga X 0), .int (nI (e.getD 201))] (ch X M q nu vc sb tp by_ sh nn fo kp) (fun z g => z = ansI (orN e) ∧ g = ch X M q nu vc sb tp by_ sh nn (fnF fo (orN e)) kp) := by
  refine ct_i (own := RX5) (lv := [some (.ref (ga X 0)), some (.int (nI (e.getD 201)))]) (by decide) rfl (Nat.le_of_ble_eq_true rfl) (Nat.le_of_ble_eq_true rfl) rfl (fun C hC hR => ?_)
  refine v_iload_n hC rfl dX5_daysOrNone_0 (q := 1) rfl ?_
  refine v_sipush hC (v := 201) rfl dX5_daysOrNone_1 (q := 4) rfl ?_
  refine v_icmp_ne hC dX5_daysOrNone_4 (t := 16) rfl (q := 7) rfl (fun h4 => ?_) (fun h4 => ?_)
  · refine v_iload_n hC rfl dX5_daysOrNone_16 (q := 17) rfl ?_
    refine hR _ _ _ _ ?_ dX5_daysOrNone_17
    cases e with
    | none => exact absurd rfl h4
    | some k =>
      have hk := he k rfl
      exact ⟨rfl, rfl⟩
  · refine v_aload_n hC rfl dX5_daysOrNone_7 (q := 8) rfl ?_
    refine v_ldc hC wk_X5_176 dX5_daysOrNone_8 (q := 10) rfl ?_
    refine v_Vi hC lkV_X5_56 (c_X5_finding (n := 3) (by decide)) rfl (by decide) (k := 0) (by decide) ch_0 rfl rfl (Nat.le_of_ble_eq_true rfl) dX5_daysOrNone_10 (q := 13) rfl ?_
    rintro _ _ ⟨rfl, rfl⟩
    refine v_goto hC dX5_daysOrNone_13 (t := 17) rfl ?_
    refine hR _ _ _ _ ?_ dX5_daysOrNone_17
    cases e with
    | none => exact ⟨rfl, rfl⟩
    | some k =>
      have hk := he k rfl
      exact absurd ((nI_eq (a := k) (b := 201) (by omega) (by decide)).mp h4) (by omega)

set_option maxHeartbeats 4000000 in
set_option maxRecDepth 100000 in
theorem c_X5_trialOf {l : Launch} {X : Gx} {M : MS} {q nu : Nat → Nat → Int32} {vc : Nat → Nat → Nat → Int32} {sb : Nat → Nat → Int32} {tp by_ : Nat → Int32} {sh : Nat → Nat → Int32} {nn : Nat → Nat → Int64} {fo : Nat → Int32} {kp : Int32} {P : Nat} (hP : P < 8) : Cr l X yX5_trialOf cX5_trialOf 2 (some (.object "GrudgeGlasses$One")) (rmk 2 42) [.ref (ga X 0), .int (nI P)] (ch X M q nu vc sb tp by_ sh nn fo kp) (fun r_ g => r_ = ga X (4 + 11 * 2 + 8) ∧ g = ch X M q (va_up nu 2 (upd (nu 2) 8 (nu 0 P))) (va_up vc 2 (va_up (vc 2) 8 (vc 0 P))) sb tp by_ sh nn fo kp) := by
  refine ct_r (own := RX5) (lv := [some (.ref (ga X 0)), some (.int (nI P))]) (by decide) rfl (Nat.le_of_ble_eq_true rfl) (Nat.le_of_ble_eq_true rfl) rfl (fun C hC hR => ?_)
  refine v_aload_n hC rfl dX5_trialOf_0 (q := 1) rfl ?_
  refine v_get hC fl_X5_25 (k := 0) (by decide) ch_0 rfl dX5_trialOf_1 (q := 4) rfl ?_
  refine v_aload_n hC rfl dX5_trialOf_4 (q := 5) rfl ?_
  refine v_get hC fl_X5_12 (k := 0) (by decide) ch_0 rfl dX5_trialOf_5 (q := 8) rfl ?_
  refine v_getN hC nl_X5_76 (k := 1 + 11 * 0) (by decide) (ch_q (b := 0) (by decide)) rfl dX5_trialOf_8 (q := 11) rfl ?_
  refine v_iload_n hC rfl dX5_trialOf_11 (q := 12) rfl ?_
  refine v_aald hC 2 (k := 2 + 11 * 0) (by decide) (ch_p (b := 0) (by decide)) rfl (ix8' (by omega)) (j := P) (nI_clamp (by omega)) rfl dX5_trialOf_12 (q := 13) rfl ?_
  refine v_Vv hC lkV_X5_260 (c_X0_become_F (q := 4 + 11 * 2 + 8) (by decide) (ch_o (by decide) (Or.inr ⟨rfl, rfl⟩)) (q2 := 4 + 11 * 0 + P) (by omega) (by omega) (ch_o (by decide) (Or.inl (by omega)))) rfl (by decide) (k := 4 + 11 * 2 + 8) (by decide) (ch_o (b := 2) (k := 8) (by decide) (Or.inr ⟨rfl, rfl⟩)) rfl rfl (Nat.le_of_ble_eq_true rfl) dX5_trialOf_13 (q := 16) rfl ?_
  rintro _ rfl
  rw [ch_set (by decide) (Or.inr ⟨rfl, rfl⟩)]
  refine v_aload_n hC rfl dX5_trialOf_16 (q := 17) rfl ?_
  refine v_get hC fl_X5_25 (k := 0) (by decide) ch_0 rfl dX5_trialOf_17 (q := 20) rfl ?_
  refine hR _ _ _ _ ?_ dX5_trialOf_20
  exact ⟨rfl, rfl⟩

set_option maxHeartbeats 4000000 in
set_option maxRecDepth 100000 in
theorem c_X5_faultOfSheet {l : Launch} {X : Gx} {M : MS} {q nu : Nat → Nat → Int32} {vc : Nat → Nat → Nat → Int32} {sb : Nat → Nat → Int32} {tp by_ : Nat → Int32} {sh : Nat → Nat → Int32} {nn : Nat → Nat → Int64} {fo : Nat → Int32} {kp : Int32} {s : Int32} : Ci l X yX5_faultOfSheet cX5_faultOfSheet 2 (some .int) (rmk 1 20) [.ref (ga X 0), .int s] (ch X M q nu vc sb tp by_ sh nn fo kp) (fun z g => z = whyI (nT (fun s => sh s 0) s) ∧ g = ch X M q nu vc sb tp by_ sh nn fo kp) := by
  refine ct_i (own := RX5) (lv := [some (.ref (ga X 0)), some (.int s)]) (by decide) rfl (Nat.le_of_ble_eq_true rfl) (Nat.le_of_ble_eq_true rfl) rfl (fun C hC hR => ?_)
  refine v_iload_n hC rfl dX5_faultOfSheet_0 (q := 1) rfl ?_
  refine v_Si hC lkS_X5_206 c_X5_isSheet rfl (by decide) rfl (Nat.le_of_ble_eq_true rfl) dX5_faultOfSheet_1 (q := 4) rfl ?_
  rintro _ _ ⟨⟨⟨Q1, hQ1, rfl⟩, rfl⟩ | ⟨hc1, rfl⟩, rfl⟩
  · refine v_if_ne hC dX5_faultOfSheet_4 (t := 10) rfl (q := 7) rfl (fun _ => ?_) (fun h => absurd h (by decide))
    refine v_aload_n hC rfl dX5_faultOfSheet_10 (q := 11) rfl ?_
    refine v_get hC fl_X5_38 (k := 0) (by decide) ch_0 rfl dX5_faultOfSheet_11 (q := 14) rfl ?_
    refine v_iload_n hC rfl dX5_faultOfSheet_14 (q := 15) rfl ?_
    refine v_aald hC 3 (k := 37) (by decide) ch_37 rfl (ix4' (by omega)) (j := Q1) (nI_clamp (by omega)) rfl dX5_faultOfSheet_15 (q := 16) rfl ?_
    refine v_Vi hC lkV_X5_226 (c_X2_isMissing (s := Q1) (by omega)) rfl (by decide) (k := 38 + 2 * Q1) (by omega) (ch_sh (s := Q1) (by omega)) rfl rfl (Nat.le_of_ble_eq_true rfl) dX5_faultOfSheet_16 (q := 19) rfl ?_
    rintro _ _ ⟨⟨hc16, rfl⟩ | ⟨hc16, rfl⟩, rfl⟩
    · refine v_if_eq hC dX5_faultOfSheet_19 (t := 27) rfl (q := 22) rfl (fun h => absurd h (by decide)) (fun _ => ?_)
      refine v_ldc hC wk_X5_229 dX5_faultOfSheet_22 (q := 24) rfl ?_
      refine v_goto hC dX5_faultOfSheet_24 (t := 28) rfl ?_
      refine hR _ _ _ _ ?_ dX5_faultOfSheet_28
      refine ⟨?_, rfl⟩
      simp only [nT, pIx_nI hQ1 (by decide), if_pos hc16, whyI]; rfl
    · refine v_if_eq hC dX5_faultOfSheet_19 (t := 27) rfl (q := 22) rfl (fun _ => ?_) (fun h => absurd h (by decide))
      refine v_iconst hC (v := 0) rfl dX5_faultOfSheet_27 (q := 28) rfl ?_
      refine hR _ _ _ _ ?_ dX5_faultOfSheet_28
      refine ⟨?_, rfl⟩
      simp only [nT, pIx_nI hQ1 (by decide), if_neg hc16, whyI]
  · refine v_if_ne hC dX5_faultOfSheet_4 (t := 10) rfl (q := 7) rfl (fun h => absurd h (by decide)) (fun _ => ?_)
    refine v_ldc hC wk_X5_55 dX5_faultOfSheet_7 (q := 9) rfl ?_
    refine hR _ _ _ _ ?_ dX5_faultOfSheet_9
    refine ⟨?_, rfl⟩
    simp only [nT, pIx_no (by decide) hc1, whyI]; rfl

set_option maxHeartbeats 4000000 in
set_option maxRecDepth 100000 in
theorem c_X5_faultOfSheetFor {l : Launch} {X : Gx} {M : MS} {q nu : Nat → Nat → Int32} {vc : Nat → Nat → Nat → Int32} {sb : Nat → Nat → Int32} {tp by_ : Nat → Int32} {sh : Nat → Nat → Int32} {nn : Nat → Nat → Int64} {fo : Nat → Int32} {kp : Int32} {n : Nat} (hN : q 0 1 = nI n) (h8 : n ≤ 8) {s p : Int32} : Ci l X yX5_faultOfSheetFor cX5_faultOfSheetFor 4 (some .int) (rmk 2 41) [.ref (ga X 0), .int s, .int p] (ch X M q nu vc sb tp by_ sh nn fo kp) (fun z g => z = whyA (nA (fun s => sh s 0) n s p) ∧ g = ch X M q nu vc sb tp by_ sh nn fo kp) := by
  refine ct_i (own := RX5) (lv := [some (.ref (ga X 0)), some (.int s), some (.int p), none]) (by decide) rfl (Nat.le_of_ble_eq_true rfl) (Nat.le_of_ble_eq_true rfl) rfl (fun C hC hR => ?_)
  cases e : nT (fun s => sh s 0) s with
  | inl k =>
    have hk := nT_lt e
    have h0 := fnd_ne ⟨k, hk⟩
    refine v_aload_n hC rfl dX5_faultOfSheetFor_0 (q := 1) rfl ?_
    refine v_iload_n hC rfl dX5_faultOfSheetFor_1 (q := 2) rfl ?_
    refine v_Vi hC lkV_X5_216 c_X5_faultOfSheet rfl (by decide) (k := 0) (by decide) ch_0 rfl rfl (Nat.le_of_ble_eq_true rfl) dX5_faultOfSheetFor_2 (q := 5) rfl ?_
    rintro _ _ ⟨rfl, rfl⟩
    rw [e, whyI]
    refine v_istore_3 hC rfl dX5_faultOfSheetFor_5 (q := 6) rfl ?_
    refine v_iload_n hC rfl dX5_faultOfSheetFor_6 (q := 7) rfl ?_
    refine v_if_eq hC dX5_faultOfSheetFor_7 (t := 12) rfl (q := 10) rfl (fun h => absurd h h0) (fun _ => ?_)
    refine v_iload_n hC rfl dX5_faultOfSheetFor_10 (q := 11) rfl ?_
    refine hR _ _ _ _ ?_ dX5_faultOfSheetFor_11
    exact ⟨by simp only [nA, e, whyA], rfl⟩
  | inr Q =>
    refine v_aload_n hC rfl dX5_faultOfSheetFor_0 (q := 1) rfl ?_
    refine v_iload_n hC rfl dX5_faultOfSheetFor_1 (q := 2) rfl ?_
    refine v_Vi hC lkV_X5_216 c_X5_faultOfSheet rfl (by decide) (k := 0) (by decide) ch_0 rfl rfl (Nat.le_of_ble_eq_true rfl) dX5_faultOfSheetFor_2 (q := 5) rfl ?_
    rintro _ _ ⟨rfl, rfl⟩
    rw [e, whyI]
    refine v_istore_3 hC rfl dX5_faultOfSheetFor_5 (q := 6) rfl ?_
    refine v_iload_n hC rfl dX5_faultOfSheetFor_6 (q := 7) rfl ?_
    refine v_if_eq hC dX5_faultOfSheetFor_7 (t := 12) rfl (q := 10) rfl (fun _ => ?_) (fun h => absurd rfl h)
    refine v_aload_n hC rfl dX5_faultOfSheetFor_12 (q := 13) rfl ?_
    refine v_iload_n hC rfl dX5_faultOfSheetFor_13 (q := 14) rfl ?_
    refine v_Vi hC lkV_X5_73 (c_X5_isThere hN h8) rfl (by decide) (k := 0) (by decide) ch_0 rfl rfl (Nat.le_of_ble_eq_true rfl) dX5_faultOfSheetFor_14 (q := 17) rfl ?_
    rintro _ _ ⟨⟨⟨P14, hP14, rfl⟩, rfl⟩ | ⟨hc14, rfl⟩, rfl⟩
    · refine v_if_eq hC dX5_faultOfSheetFor_17 (t := 24) rfl (q := 20) rfl (fun h => absurd h (by decide)) (fun _ => ?_)
      refine v_iconst hC (v := 0) rfl dX5_faultOfSheetFor_20 (q := 21) rfl ?_
      refine v_goto hC dX5_faultOfSheetFor_21 (t := 26) rfl ?_
      refine hR _ _ _ _ ?_ dX5_faultOfSheetFor_26
      exact ⟨by simp only [nA, e, pIx_nI hP14 h8, whyA], rfl⟩
    · refine v_if_eq hC dX5_faultOfSheetFor_17 (t := 24) rfl (q := 20) rfl (fun _ => ?_) (fun h => absurd h (by decide))
      refine v_ldc hC wk_X5_55 dX5_faultOfSheetFor_24 (q := 26) rfl ?_
      refine hR _ _ _ _ ?_ dX5_faultOfSheetFor_26
      exact ⟨by simp only [nA, e, pIx_no h8 hc14, whyA]; rfl, rfl⟩

theorem le0_eq {x : Int32} (h : 0 ≤ x) : x ≤ 0 ↔ x = 0 := by
  constructor
  · intro h2; exact Int32.le_antisymm h2 h
  · rintro rfl; exact Int32.le_refl _
set_option maxHeartbeats 4000000 in
set_option maxRecDepth 100000 in
theorem c_X5_daysTillForgiven {l : Launch} {X : Gx} {f : Hp} {q : Nat} (hq : q < 56) {k : Int32} {v : Nat → Int32} (hv : okV v) : Ci l X yX5_daysTillForgiven cX5_daysTillForgiven 2 (some .int) (rmk 4 87) [.ref (ga X q)] (va_up f q (oneV k v)) (fun z g => z = nI ((eas k v).getD 201) ∧ ∃ w, g = va_up f q (oneV k w)) := by
  refine ct_i (own := RX5) (lv := [some (.ref (ga X q)), none]) (by decide) rfl (Nat.le_of_ble_eq_true rfl) (Nat.le_of_ble_eq_true rfl) rfl (fun C hC hR => ?_)
  have loop : ∀ j, j ≤ 201 → eas k v = fstN (easB k v) (201 - j) j → V l X (rmk 4 87) C (va_up f q (oneV k (itD k v j))) 2 [some (.ref (ga X q)), some (.int (nI j))] [] := by
    refine v_up 201 ?_ ?_
    · intro hI
      have hI : eas k v = none := hI
      refine v_iload_n hC rfl dX5_daysTillForgiven_2 (q := 3) rfl ?_
      refine v_sipush hC (v := 200) rfl dX5_daysTillForgiven_3 (q := 6) rfl ?_
      refine v_icmp_gt hC dX5_daysTillForgiven_6 (t := 28) rfl (q := 9) rfl (fun _ => ?_) (fun h => absurd (by decide) h)
      refine v_sipush hC (v := 201) rfl dX5_daysTillForgiven_28 (q := 31) rfl ?_
      refine hR _ _ _ _ ?_ dX5_daysTillForgiven_31
      exact ⟨by rw [hI]; rfl, _, rfl⟩
    · intro j hj ih hI
      rw [show 201 - j = (201 - (j + 1)) + 1 by omega, fstN] at hI
      have hvj := okV_it (k := k) hv j
      refine v_iload_n hC rfl dX5_daysTillForgiven_2 (q := 3) rfl ?_
      refine v_sipush hC (v := 200) rfl dX5_daysTillForgiven_3 (q := 6) rfl ?_
      refine v_icmp_gt hC dX5_daysTillForgiven_6 (t := 28) rfl (q := 9) rfl (fun h => absurd h (Int32.not_lt.mpr (nI_le (b := 200) (by omega) (by decide)))) (fun _ => ?_)
      refine v_aload_n hC rfl dX5_daysTillForgiven_9 (q := 10) rfl ?_
      refine v_getN hC nl_X5_98 (k := q) hq (va_up_self _ _ _) rfl dX5_daysTillForgiven_10 (q := 13) rfl ?_
      refine v_if_ne hC dX5_daysTillForgiven_13 (t := 18) rfl (q := 16) rfl (fun h13 => ?_) (fun h13 => ?_)
      · refine v_aload_n hC rfl dX5_daysTillForgiven_18 (q := 19) rfl ?_
        refine v_Vv hC lkV_X5_247 (c_X0_letDayGo hq (okV_it hv j)) rfl (by decide) (k := q) hq (va_up_self _ _ _) rfl rfl (Nat.le_of_ble_eq_true rfl) dX5_daysTillForgiven_19 (q := 22) rfl ?_
        rintro _ rfl
        refine v_iinc_1 hC (v := _ + 1) rfl rfl dX5_daysTillForgiven_22 (q := 25) rfl ?_
        refine v_goto hC dX5_daysTillForgiven_25 (t := 2) rfl ?_
        refine v_same rfl ?_ rfl (ih ?_)
        · simp [nI_1]
        · rw [hI, if_neg (by simp only [easB, decide_eq_true_eq]; rw [le0_eq hvj.2.1.1]; exact h13)]
      · refine v_iload_n hC rfl dX5_daysTillForgiven_16 (q := 17) rfl ?_
        refine hR _ _ _ _ ?_ dX5_daysTillForgiven_17
        rw [if_pos (by simp only [easB, decide_eq_true_eq]; rw [le0_eq hvj.2.1.1]; exact h13)] at hI
        exact ⟨by rw [hI]; rfl, _, rfl⟩
  refine v_iconst hC (v := 0) rfl dX5_daysTillForgiven_0 (q := 1) rfl ?_
  refine v_istore_1 hC rfl dX5_daysTillForgiven_1 (q := 2) rfl ?_
  exact loop 0 (by decide) (eas_eq _ _)

set_option maxHeartbeats 4000000 in
set_option maxRecDepth 100000 in
theorem c_X5_daysTillWornOut {l : Launch} {X : Gx} {f : Hp} {q : Nat} (hq : q < 56) {k : Int32} {v : Nat → Int32} (hv : okV v) : Ci l X yX5_daysTillWornOut cX5_daysTillWornOut 2 (some .int) (rmk 4 87) [.ref (ga X q)] (va_up f q (oneV k v)) (fun z g => z = nI ((wrn k v).getD 201) ∧ ∃ w, g = va_up f q (oneV k w)) := by
  refine ct_i (own := RX5) (lv := [some (.ref (ga X q)), none]) (by decide) rfl (Nat.le_of_ble_eq_true rfl) (Nat.le_of_ble_eq_true rfl) rfl (fun C hC hR => ?_)
  have loop : ∀ j, j ≤ 201 → wrn k v = fstN (wrnB k v) (201 - j) j → V l X (rmk 4 87) C (va_up f q (oneV k (itD k v j))) 2 [some (.ref (ga X q)), some (.int (nI j))] [] := by
    refine v_up 201 ?_ ?_
    · intro hI
      have hI : wrn k v = none := hI
      refine v_iload_n hC rfl dX5_daysTillWornOut_2 (q := 3) rfl ?_
      refine v_sipush hC (v := 200) rfl dX5_daysTillWornOut_3 (q := 6) rfl ?_
      refine v_icmp_gt hC dX5_daysTillWornOut_6 (t := 32) rfl (q := 9) rfl (fun _ => ?_) (fun h => absurd (by decide) h)
      refine v_sipush hC (v := 201) rfl dX5_daysTillWornOut_32 (q := 35) rfl ?_
      refine hR _ _ _ _ ?_ dX5_daysTillWornOut_35
      exact ⟨by rw [hI]; rfl, _, rfl⟩
    · intro j hj ih hI
      rw [show 201 - j = (201 - (j + 1)) + 1 by omega, fstN] at hI
      have hvj := okV_it (k := k) hv j
      refine v_iload_n hC rfl dX5_daysTillWornOut_2 (q := 3) rfl ?_
      refine v_sipush hC (v := 200) rfl dX5_daysTillWornOut_3 (q := 6) rfl ?_
      refine v_icmp_gt hC dX5_daysTillWornOut_6 (t := 32) rfl (q := 9) rfl (fun h => absurd h (Int32.not_lt.mpr (nI_le (b := 200) (by omega) (by decide)))) (fun _ => ?_)
      refine v_aload_n hC rfl dX5_daysTillWornOut_9 (q := 10) rfl ?_
      refine v_getN hC nl_X5_152 (k := q) hq (va_up_self _ _ _) rfl dX5_daysTillWornOut_10 (q := 13) rfl ?_
      refine v_aload_n hC rfl dX5_daysTillWornOut_13 (q := 14) rfl ?_
      refine v_getN hC nl_X5_108 (k := q) hq (va_up_self _ _ _) rfl dX5_daysTillWornOut_14 (q := 17) rfl ?_
      refine v_icmp_lt hC dX5_daysTillWornOut_17 (t := 22) rfl (q := 20) rfl (fun h17 => ?_) (fun h17 => ?_)
      · refine v_aload_n hC rfl dX5_daysTillWornOut_22 (q := 23) rfl ?_
        refine v_Vv hC lkV_X5_247 (c_X0_letDayGo hq (okV_it hv j)) rfl (by decide) (k := q) hq (va_up_self _ _ _) rfl rfl (Nat.le_of_ble_eq_true rfl) dX5_daysTillWornOut_23 (q := 26) rfl ?_
        rintro _ rfl
        refine v_iinc_1 hC (v := _ + 1) rfl rfl dX5_daysTillWornOut_26 (q := 29) rfl ?_
        refine v_goto hC dX5_daysTillWornOut_29 (t := 2) rfl ?_
        refine v_same rfl ?_ rfl (ih ?_)
        · simp [nI_1]
        · rw [hI, if_neg (by simp only [wrnB, decide_eq_true_eq]; first | exact Int32.not_lt.mp h17 | exact Int32.not_le.mpr h17)]
      · refine v_iload_n hC rfl dX5_daysTillWornOut_20 (q := 21) rfl ?_
        refine hR _ _ _ _ ?_ dX5_daysTillWornOut_21
        rw [if_pos (by simp only [wrnB, decide_eq_true_eq]; first | exact Int32.not_lt.mp h17 | exact Int32.not_le.mpr h17)] at hI
        exact ⟨by rw [hI]; rfl, _, rfl⟩
  refine v_iconst hC (v := 0) rfl dX5_daysTillWornOut_0 (q := 1) rfl ?_
  refine v_istore_1 hC rfl dX5_daysTillWornOut_1 (q := 2) rfl ?_
  exact loop 0 (by decide) (wrn_eq _ _)
