set_option maxHeartbeats 4000000 in
set_option maxRecDepth 100000 in
theorem c_X3_number {l : Launch} {X : Gx} {M : MS} {q nu : Nat → Nat → Int32} {vc : Nat → Nat → Nat → Int32} {sb : Nat → Nat → Int32} {by_ : Nat → Int32} {sh : Nat → Nat → Int32} {nn : Nat → Nat → Int64} {fo : Nat → Int32} {kp : Int32} {t0 t1 : Int32} {s len : Nat} (hs : s + len ≤ 120) : Ci l X yX3_number cX3_number 3 (some .int) (rmk 1 21) [.ref (ga X 35)] (ch X M q nu vc sb (iv [t0, t1, nI s, nI (s + len)]) by_ sh nn fo kp) (fun z g => z = vlC by_ s len ∧ g = ch X M q nu vc sb (iv [t0, t1, nI s, nI (s + len)]) by_ sh nn fo kp) := by
  refine ct_i (own := RX3) (lv := [some (.ref (ga X 35)), none, none]) (by decide) rfl (Nat.le_of_ble_eq_true rfl) (Nat.le_of_ble_eq_true rfl) rfl (fun C hC hR => ?_)
  have loop : ∀ j, j ≤ len → V l X (rmk 1 21) C (ch X M q nu vc sb (iv [t0, t1, nI s, nI (s + len)]) by_ sh nn fo kp) 7 [some (.ref (ga X 35)), some (.int (vlC by_ s j)), some (.int (nI (s + j)))] [] := by
    refine v_up len ?_ ?_
    · refine v_iload_n hC rfl dX3_number_7 (q := 8) rfl ?_
      refine v_aload_n hC rfl dX3_number_8 (q := 9) rfl ?_
      refine v_get hC fl_X3_25 (k := 35) (by decide) ch_35v rfl dX3_number_9 (q := 12) rfl ?_
      refine v_icmp_ge hC dX3_number_12 (t := 42) rfl (q := 15) rfl (fun _ => ?_) (fun h => absurd (Int32.le_refl _) h)
      refine v_iload_n hC rfl dX3_number_42 (q := 43) rfl ?_
      refine hR _ _ _ _ ?_ dX3_number_43
      exact ⟨rfl, rfl⟩
    · intro j hj ih
      refine v_iload_n hC rfl dX3_number_7 (q := 8) rfl ?_
      refine v_aload_n hC rfl dX3_number_8 (q := 9) rfl ?_
      refine v_get hC fl_X3_25 (k := 35) (by decide) ch_35v rfl dX3_number_9 (q := 12) rfl ?_
      refine v_icmp_ge hC dX3_number_12 (t := 42) rfl (q := 15) rfl (fun h => absurd h (nI_ge (show s + j < s + len by omega) (by omega))) (fun _ => ?_)
      refine v_sipush hC (v := 1000) rfl dX3_number_15 (q := 18) rfl ?_
      refine v_iload_n hC rfl dX3_number_18 (q := 19) rfl ?_
      refine v_bipush hC (v := 10) rfl dX3_number_19 (q := 21) rfl ?_
      refine v_imul hC dX3_number_21 (q := 22) rfl ?_
      refine v_aload_n hC rfl dX3_number_22 (q := 23) rfl ?_
      refine v_get hC fl_X3_9 (k := 35) (by decide) ch_35v rfl dX3_number_23 (q := 26) rfl ?_
      refine v_iload_n hC rfl dX3_number_26 (q := 27) rfl ?_
      refine v_iald hC (k := 36) (by decide) ch_36 (ix120' (by omega)) (j := (s + j)) (nI_clamp (by omega)) dX3_number_27 (q := 28) rfl ?_
      refine v_iadd hC dX3_number_28 (q := 29) rfl ?_
      refine v_bipush hC (v := 48) rfl dX3_number_29 (q := 31) rfl ?_
      refine v_isub hC dX3_number_31 (q := 32) rfl ?_
      refine v_min hC wm_X3_50 wt_J9_min_7cf53 wi_J9 wd_J9_min_7cf53 ⟨by decide, Nat.le_of_ble_eq_true rfl⟩ dX3_number_32 (q := 35) rfl ?_
      refine v_istore_1 hC rfl dX3_number_35 (q := 36) rfl ?_
      refine v_iinc_2 hC (v := _ + 1) rfl rfl dX3_number_36 (q := 39) rfl ?_
      refine v_goto hC dX3_number_39 (t := 7) rfl ?_
      refine v_same rfl ?_ rfl ih
      rw [vlC]
      simp [nI_1, Nat.add_assoc]
  refine v_iconst hC (v := 0) rfl dX3_number_0 (q := 1) rfl ?_
  refine v_istore_1 hC rfl dX3_number_1 (q := 2) rfl ?_
  refine v_aload_n hC rfl dX3_number_2 (q := 3) rfl ?_
  refine v_get hC fl_X3_22 (k := 35) (by decide) ch_35v rfl dX3_number_3 (q := 6) rfl ?_
  refine v_istore_2 hC rfl dX3_number_6 (q := 7) rfl ?_
  exact loop 0 (Nat.zero_le _)

theorem word_ne {t : Nat → Int32} {s len : Nat} {x : Nat} (h1 : 11 ≤ x) (h2 : x < 23) : ¬ wordF t s len = nI x := by
  unfold wordF
  cases e : wdF t s len with
  | none => exact fun z => by have := (nI_eq (a := 23) (b := x) (by decide) (by omega)).mp z; omega
  | some w =>
    have := fstN_lt _ _ _ ((wdF_eq t s len).symm.trans e)
    exact fun z => by have := (nI_eq (a := w) (b := x) (by omega) (by omega)).mp z; omega
theorem tk_20 {t : Nat → Int32} {T p : Nat} : tkK t T p = 20 ↔ tkC t T p = 2 := by
  unfold tkK tkC
  by_cases h1 : tkS t T p = T
  · rw [if_pos h1, if_pos h1]; exact ⟨fun z => absurd z (by decide), fun z => absurd z (by decide)⟩
  rw [if_neg h1, if_neg h1]
  by_cases h2 : isL t (tkS t T p) = true
  · rw [if_pos h2, if_pos h2]; exact ⟨fun z => absurd z (word_ne (x := 20) (by decide) (by decide)), fun z => absurd z (by decide)⟩
  rw [if_neg h2, if_neg h2]
  by_cases h3 : isD t (tkS t T p) = true
  · rw [if_pos h3, if_pos h3]; exact ⟨fun _ => rfl, fun _ => rfl⟩
  rw [if_neg h3, if_neg h3]
  constructor
  · intro z; split at z <;> exact absurd z (by decide)
  · intro z; split at z <;> exact absurd z (by decide)
theorem tk_22 {t : Nat → Int32} {T p : Nat} : tkK t T p = 22 ↔ tkC t T p = 0 := by
  unfold tkK tkC
  by_cases h1 : tkS t T p = T
  · rw [if_pos h1, if_pos h1]; exact ⟨fun _ => rfl, fun _ => rfl⟩
  rw [if_neg h1, if_neg h1]
  by_cases h2 : isL t (tkS t T p) = true
  · rw [if_pos h2, if_pos h2]; exact ⟨fun z => absurd z (word_ne (x := 22) (by decide) (by decide)), fun z => absurd z (by decide)⟩
  rw [if_neg h2, if_neg h2]
  by_cases h3 : isD t (tkS t T p) = true
  · rw [if_pos h3, if_pos h3]; exact ⟨fun z => absurd z (by decide), fun z => absurd z (by decide)⟩
  rw [if_neg h3, if_neg h3]
  constructor
  · intro z; split at z <;> exact absurd z (by decide)
  · intro z; split at z <;> exact absurd z (by decide)
theorem tk_21 {t : Nat → Int32} {T p : Nat} : tkK t T p = 21 ↔ tkC t T p = 3 := by
  unfold tkK tkC
  by_cases h1 : tkS t T p = T
  · rw [if_pos h1, if_pos h1]; exact ⟨fun z => absurd z (by decide), fun z => absurd z (by decide)⟩
  rw [if_neg h1, if_neg h1]
  by_cases h2 : isL t (tkS t T p) = true
  · rw [if_pos h2, if_pos h2]; exact ⟨fun z => absurd z (word_ne (x := 21) (by decide) (by decide)), fun z => absurd z (by decide)⟩
  rw [if_neg h2, if_neg h2]
  by_cases h3 : isD t (tkS t T p) = true
  · rw [if_pos h3, if_pos h3]; exact ⟨fun z => absurd z (by decide), fun z => absurd z (by decide)⟩
  rw [if_neg h3, if_neg h3]
  have hi : (59 ≤ t (tkS t T p) ∧ t (tkS t T p) ≤ 59) ↔ t (tkS t T p) = 59 := ⟨fun z => Int32.le_antisymm z.2 z.1, fun z => by rw [z]; exact ⟨by decide, by decide⟩⟩
  by_cases h4 : t (tkS t T p) = 59
  · rw [if_pos (hi.mpr h4), if_pos h4]; exact ⟨fun _ => rfl, fun _ => rfl⟩
  · rw [if_neg (fun z => h4 (hi.mp z)), if_neg h4]; exact ⟨fun z => absurd z (by decide), fun z => absurd z (by decide)⟩
theorem tkc_2 {t : Nat → Int32} {T p : Nat} (h : tkC t T p = 2) : ¬ tkS t T p = T ∧ ¬ isL t (tkS t T p) = true ∧ isD t (tkS t T p) = true := by
  unfold tkC at h
  by_cases h1 : tkS t T p = T
  · rw [if_pos h1] at h; exact absurd h (by decide)
  rw [if_neg h1] at h
  by_cases h2 : isL t (tkS t T p) = true
  · rw [if_pos h2] at h; exact absurd h (by decide)
  rw [if_neg h2] at h
  by_cases h3 : isD t (tkS t T p) = true
  · exact ⟨h1, h2, h3⟩
  rw [if_neg h3] at h
  split at h <;> exact absurd h (by decide)
theorem tkc_1 {t : Nat → Int32} {T p : Nat} (h : tkC t T p = 1) : ¬ tkS t T p = T ∧ isL t (tkS t T p) = true := by
  unfold tkC at h
  by_cases h1 : tkS t T p = T
  · rw [if_pos h1] at h; exact absurd h (by decide)
  rw [if_neg h1] at h
  by_cases h2 : isL t (tkS t T p) = true
  · exact ⟨h1, h2⟩
  rw [if_neg h2] at h
  by_cases h3 : isD t (tkS t T p) = true
  · rw [if_pos h3] at h; exact absurd h (by decide)
  rw [if_neg h3] at h
  split at h <;> exact absurd h (by decide)
theorem num_of {t : Nat → Int32} {T p : Nat} (hp : p ≤ T) (h : tkC t T p = 2) : ∃ v, v < 10000 ∧ tkV t T p = nI v ∧ vlC t (tkS t T p) (tkE t T p - tkS t T p) = nI (if v < 1000 then v else 1000) := by
  obtain ⟨h1, h2, h3⟩ := tkc_2 h
  have hs := tkS_le (t := t) hp
  have he : tkE t T p = enD t T (tkS t T p) := by unfold tkE; rw [if_neg h1, if_neg h2, if_pos h3]
  have hv : tkV t T p = valF t (tkS t T p) (enD t T (tkS t T p) - tkS t T p) := by unfold tkV; rw [if_neg h1, if_neg h2, if_pos h3]
  have hd := enD_le (t := t) hs.2
  rw [hv, he]
  exact vl_val _ (fun j hj => skF_in (b := isD t) (T - tkS t T p) (tkS t T p) (tkS t T p + j) (by omega) (show _ < enD t T (tkS t T p) by omega))
def numB (t : Nat → Int32) (T p B v : Nat) : Prop := tkK t T p = 20 ∧ tkV t T p = nI v ∧ v < B ∧ vlC t (tkS t T p) (tkE t T p - tkS t T p) = nI v
set_option maxHeartbeats 4000000 in
set_option maxRecDepth 100000 in
theorem c_X3_isAtNumberBelow {l : Launch} {X : Gx} {M : MS} {q nu : Nat → Nat → Int32} {vc : Nat → Nat → Nat → Int32} {sb : Nat → Nat → Int32} {by_ : Nat → Int32} {sh : Nat → Nat → Int32} {nn : Nat → Nat → Int64} {fo : Nat → Int32} {kp : Int32} {T : Nat} (hT : T ≤ 120) {p : Nat} (hp1 : p ≤ T) {B : Nat} (hB : B ≤ 100) : Ci l X yX3_isAtNumberBelow cX3_isAtNumberBelow 2 (some .boolean) (rmk 2 43) [.ref (ga X 35), .int (nI B)] (ch X M q nu vc sb (iv [nI T, tkC by_ T (p), nI (tkS by_ T (p)), nI (tkE by_ T (p))]) by_ sh nn fo kp) (fun z g => ((∃ v, numB by_ T p B v) ∧ z = 1 ∨ ¬ (tkK by_ T p = 20 ∧ tkV by_ T p < nI B) ∧ z = 0) ∧ g = ch X M q nu vc sb (iv [nI T, tkC by_ T (p), nI (tkS by_ T (p)), nI (tkE by_ T (p))]) by_ sh nn fo kp) := by
  refine ct_z (own := RX3) (lv := [some (.ref (ga X 35)), some (.int (nI B))]) (by decide) rfl (Nat.le_of_ble_eq_true rfl) (Nat.le_of_ble_eq_true rfl) rfl (fun C hC hR => ?_)
  refine v_aload_n hC rfl dX3_isAtNumberBelow_0 (q := 1) rfl ?_
  refine v_get hC fl_X3_19 (k := 35) (by decide) ch_35v rfl dX3_isAtNumberBelow_1 (q := 4) rfl ?_
  refine v_iconst hC (v := 2) rfl dX3_isAtNumberBelow_4 (q := 5) rfl ?_
  refine v_icmp_ne hC dX3_isAtNumberBelow_5 (t := 20) rfl (q := 8) rfl (fun h5 => ?_) (fun h5 => ?_)
  · refine v_iconst hC (v := 0) rfl dX3_isAtNumberBelow_20 (q := 21) rfl ?_
    refine hR _ _ _ _ ?_ (by first | rfl | decide | assumption) dX3_isAtNumberBelow_21
    exact ⟨Or.inr ⟨fun z => h5 (tk_20.mp z.1), rfl⟩, rfl⟩
  · obtain ⟨v, hv, hv1, hv2⟩ := num_of hp1 h5
    have hse := tkE_le (t := by_) hp1
    have heq : tkE by_ T p = tkS by_ T p + (tkE by_ T p - tkS by_ T p) := by omega
    refine v_aload_n hC rfl dX3_isAtNumberBelow_8 (q := 9) rfl ?_
    refine v_Vi hC lkV_X3_47 (by have hh := c_X3_number (l := l) (X := X) (M := M) (q := q) (nu := nu) (vc := vc) (sb := sb) (by_ := by_) (sh := sh) (nn := nn) (fo := fo) (kp := kp) (t0 := nI T) (t1 := tkC by_ T p) (s := tkS by_ T p) (len := tkE by_ T p - tkS by_ T p) (by omega); rw [← heq] at hh; exact hh) rfl (by decide) (k := 35) (by decide) ch_35v rfl rfl (Nat.le_of_ble_eq_true rfl) dX3_isAtNumberBelow_9 (q := 12) rfl ?_
    rintro _ _ ⟨rfl, rfl⟩
    rw [hv2]
    refine v_iload_n hC rfl dX3_isAtNumberBelow_12 (q := 13) rfl ?_
    refine v_icmp_ge hC dX3_isAtNumberBelow_13 (t := 20) rfl (q := 16) rfl (fun h13 => ?_) (fun h13 => ?_)
    · refine v_iconst hC (v := 0) rfl dX3_isAtNumberBelow_20 (q := 21) rfl ?_
      refine hR _ _ _ _ ?_ (by first | rfl | decide | assumption) dX3_isAtNumberBelow_21
      refine ⟨Or.inr ⟨fun z => ?_, rfl⟩, rfl⟩
      rw [hv1] at z
      have h1 := (nI_ltI (by omega) (by omega)).mp z.2
      rw [if_pos (by omega)] at h13
      exact nI_ge h1 (by omega) h13
    · refine v_iconst hC (v := 1) rfl dX3_isAtNumberBelow_16 (q := 17) rfl ?_
      refine v_goto hC dX3_isAtNumberBelow_17 (t := 21) rfl ?_
      refine hR _ _ _ _ ?_ (by first | rfl | decide | assumption) dX3_isAtNumberBelow_21
      have h1 := (nI_ltI (by split <;> omega) (by omega)).mp (Int32.not_le.mp h13)
      have h2 : v < 1000 := by
        rcases Nat.lt_or_ge v 1000 with z | z
        · exact z
        · rw [if_neg (by omega)] at h1; omega
      rw [if_pos h2] at h1 hv2
      exact ⟨Or.inl ⟨⟨v, tk_20.mpr h5, hv1, h1, hv2⟩, rfl⟩, rfl⟩

set_option maxHeartbeats 4000000 in
set_option maxRecDepth 100000 in
theorem c_J0_coder_7d493 {l : Launch} {X : Gx} {f : Hp} {i : Nat} (hi : i < 11) : Ci l X yJ0_coder_7d493 cJ0_coder_7d493 1 (some .byte) (rmk 0 0) [.ref (gK X i)] (f) (fun z g => z = 0 ∧ g = f) := by
  refine ct_b (own := RJ0) (lv := [some (.ref (gK X i))]) (by decide) rfl (Nat.le_of_ble_eq_true rfl) (Nat.le_of_ble_eq_true rfl) rfl (fun C hC hR => ?_)
  refine v_getCS hC wf_J0_38 dJ0_coder_7d493_0 (q := 3) rfl ?_
  refine v_if_eq hC dJ0_coder_7d493_3 (t := 13) rfl (q := 6) rfl (fun h => absurd h (by decide)) (fun _ => ?_)
  refine v_aload_n hC rfl dJ0_coder_7d493_6 (q := 7) rfl ?_
  refine v_strC hC hi wf_J0_15 dJ0_coder_7d493_7 (q := 10) rfl ?_
  refine v_goto hC dJ0_coder_7d493_10 (t := 14) rfl ?_
  refine hR _ _ _ _ ?_ (by first | rfl | decide | assumption) dJ0_coder_7d493_14
  exact ⟨rfl, rfl⟩

set_option maxHeartbeats 4000000 in
set_option maxRecDepth 100000 in
theorem c_J0_isLatin1_aae02 {l : Launch} {X : Gx} {f : Hp} {i : Nat} (hi : i < 11) : Ci l X yJ0_isLatin1_aae02 cJ0_isLatin1_aae02 1 (some .boolean) (rmk 0 0) [.ref (gK X i)] (f) (fun z g => z = 1 ∧ g = f) := by
  refine ct_z (own := RJ0) (lv := [some (.ref (gK X i))]) (by decide) rfl (Nat.le_of_ble_eq_true rfl) (Nat.le_of_ble_eq_true rfl) rfl (fun C hC hR => ?_)
  refine v_getCS hC wf_J0_38 dJ0_isLatin1_aae02_0 (q := 3) rfl ?_
  refine v_if_eq hC dJ0_isLatin1_aae02_3 (t := 17) rfl (q := 6) rfl (fun h => absurd h (by decide)) (fun _ => ?_)
  refine v_aload_n hC rfl dJ0_isLatin1_aae02_6 (q := 7) rfl ?_
  refine v_strC hC hi wf_J0_15 dJ0_isLatin1_aae02_7 (q := 10) rfl ?_
  refine v_if_ne hC dJ0_isLatin1_aae02_10 (t := 17) rfl (q := 13) rfl (fun h => absurd h (by decide)) (fun _ => ?_)
  refine v_iconst hC (v := 1) rfl dJ0_isLatin1_aae02_13 (q := 14) rfl ?_
  refine v_goto hC dJ0_isLatin1_aae02_14 (t := 18) rfl ?_
  refine hR _ _ _ _ ?_ (by first | rfl | decide | assumption) dJ0_isLatin1_aae02_18
  exact ⟨rfl, rfl⟩

theorem sw_len : ∀ i : Fin 11, Int32.ofNat (swN.getD i.val 0) >>> (0 &&& 31) = nI (swN.getD i.val 0) ∧ Int32.ofNat (swN.getD i.val 0) = nI (swN.getD i.val 0) ∧ swN.getD i.val 0 ≤ 7 := by decide +kernel
theorem sw_chr : ∀ i : Fin 11, ∀ j : Fin 7, j.val < swN.getD i.val 0 → (((swL.getD i.val []).getD j.val 0 &&& 255).toUInt32 % 65536).toInt32 = (swL.getD i.val []).getD j.val 0 := by decide +kernel
theorem sw_nar : ∀ i : Fin 11, ∀ j : Fin 7, j.val < swN.getD i.val 0 → narrow .char (.int ((swL.getD i.val []).getD j.val 0)) = .int ((swL.getD i.val []).getD j.val 0) := by decide +kernel
set_option maxHeartbeats 4000000 in
set_option maxRecDepth 100000 in
theorem c_J0_length_8abf5 {l : Launch} {X : Gx} {f : Hp} {i : Nat} (hi : i < 11) : Ci l X yJ0_length_8abf5 cJ0_length_8abf5 1 (some .int) (rmk 1 20) [.ref (gK X i)] (f) (fun z g => z = nI (swN.getD i 0) ∧ g = f) := by
  refine ct_i (own := RJ0) (lv := [some (.ref (gK X i))]) (by decide) rfl (Nat.le_of_ble_eq_true rfl) (Nat.le_of_ble_eq_true rfl) rfl (fun C hC hR => ?_)
  refine v_aload_n hC rfl dJ0_length_8abf5_0 (q := 1) rfl ?_
  refine v_strV hC hi wf_J0_9 dJ0_length_8abf5_1 (q := 4) rfl ?_
  refine v_strL hC hi rfl dJ0_length_8abf5_4 (q := 5) rfl ?_
  refine v_aload_n hC rfl dJ0_length_8abf5_5 (q := 6) rfl ?_
  refine v_KI hC lkV_J0_335 (c_J0_coder_7d493 hi) rfl (by decide) hi rfl (Nat.le_of_ble_eq_true rfl) dJ0_length_8abf5_6 (q := 9) rfl ?_
  rintro _ _ ⟨rfl, rfl⟩
  refine v_ishr hC dJ0_length_8abf5_9 (q := 10) rfl ?_
  refine hR _ _ _ _ ?_ dJ0_length_8abf5_10
  exact ⟨(sw_len ⟨i, hi⟩).1, rfl⟩

set_option maxHeartbeats 4000000 in
set_option maxRecDepth 100000 in
theorem c_J3_checkN {l : Launch} {X : Gx} {f : Hp} {j n : Nat} (hj : j < n) (hn : n < 2147483648) : Ci l X yJ3_checkIndex_8e157 cJ3_checkIndex_8e157 3 (some .int) (rmk 0 0) [.int (nI j), .int (nI n), .null] (f) (fun z g => z = nI j ∧ g = f) := by
  refine ct_i (own := RJ3) (lv := [some (.int (nI j)), some (.int (nI n)), some (.null)]) (by decide) rfl (Nat.le_of_ble_eq_true rfl) (Nat.le_of_ble_eq_true rfl) rfl (fun C hC hR => ?_)
  refine v_iload_n hC rfl dJ3_checkIndex_8e157_0 (q := 1) rfl ?_
  refine v_if_lt hC dJ3_checkIndex_8e157_1 (t := 9) rfl (q := 4) rfl (fun h => absurd h (nI_pos (by omega))) (fun _ => ?_)
  refine v_iload_n hC rfl dJ3_checkIndex_8e157_4 (q := 5) rfl ?_
  refine v_iload_n hC rfl dJ3_checkIndex_8e157_5 (q := 6) rfl ?_
  refine v_icmp_lt hC dJ3_checkIndex_8e157_6 (t := 16) rfl (q := 9) rfl (fun _ => ?_) (fun h => absurd ((nI_ltI (by omega) (by omega)).mpr hj) h)
  refine v_iload_n hC rfl dJ3_checkIndex_8e157_16 (q := 17) rfl ?_
  refine hR _ _ _ _ ?_ dJ3_checkIndex_8e157_17
  exact ⟨rfl, rfl⟩

set_option maxHeartbeats 4000000 in
set_option maxRecDepth 100000 in
theorem c_J3_checkR {l : Launch} {X : Gx} {f : Hp} {j n : Nat} (hj : j < n) (hn : n < 2147483648) {x : Nat} : Ci l X yJ3_checkIndex_8e157 cJ3_checkIndex_8e157 3 (some .int) (rmk 0 0) [.int (nI j), .int (nI n), .ref x] (f) (fun z g => z = nI j ∧ g = f) := by
  refine ct_i (own := RJ3) (lv := [some (.int (nI j)), some (.int (nI n)), some (.ref x)]) (by decide) rfl (Nat.le_of_ble_eq_true rfl) (Nat.le_of_ble_eq_true rfl) rfl (fun C hC hR => ?_)
  refine v_iload_n hC rfl dJ3_checkIndex_8e157_0 (q := 1) rfl ?_
  refine v_if_lt hC dJ3_checkIndex_8e157_1 (t := 9) rfl (q := 4) rfl (fun h => absurd h (nI_pos (by omega))) (fun _ => ?_)
  refine v_iload_n hC rfl dJ3_checkIndex_8e157_4 (q := 5) rfl ?_
  refine v_iload_n hC rfl dJ3_checkIndex_8e157_5 (q := 6) rfl ?_
  refine v_icmp_lt hC dJ3_checkIndex_8e157_6 (t := 16) rfl (q := 9) rfl (fun _ => ?_) (fun h => absurd ((nI_ltI (by omega) (by omega)).mpr hj) h)
  refine v_iload_n hC rfl dJ3_checkIndex_8e157_16 (q := 17) rfl ?_
  refine hR _ _ _ _ ?_ dJ3_checkIndex_8e157_17
  exact ⟨rfl, rfl⟩

set_option maxHeartbeats 4000000 in
set_option maxRecDepth 100000 in
theorem c_J0_checkIndex_df160 {l : Launch} {X : Gx} {f : Hp} {j n : Nat} (hj : j < n) (hn : n < 2147483648) : Cv l X yJ0_checkIndex_df160 cJ0_checkIndex_df160 2 (none) (rmk 1 22) [.int (nI j), .int (nI n)] (f) (fun g => g = f) := by
  refine ct_v (own := RJ0) (lv := [some (.int (nI j)), some (.int (nI n))]) (by decide) rfl (Nat.le_of_ble_eq_true rfl) (Nat.le_of_ble_eq_true rfl) rfl (fun C hC hR => ?_)
  refine v_iload_n hC rfl dJ0_checkIndex_df160_0 (q := 1) rfl ?_
  refine v_iload_n hC rfl dJ0_checkIndex_df160_1 (q := 2) rfl ?_
  refine v_getSF hC wf_J0_1053 dJ0_checkIndex_df160_2 (q := 5) rfl (fun v hv => ?_)
  rcases hv with rfl | ⟨x, rfl⟩
  · refine v_Si hC lkS_J0_1059 (c_J3_checkN hj hn) rfl (by decide) rfl (Nat.le_of_ble_eq_true rfl) dJ0_checkIndex_df160_5 (q := 8) rfl ?_
    rintro _ _ ⟨rfl, rfl⟩
    refine v_pop hC rfl dJ0_checkIndex_df160_8 (q := 9) rfl ?_
    refine hR _ _ _ ?_ dJ0_checkIndex_df160_9
    rfl
  · refine v_Si hC lkS_J0_1059 (c_J3_checkR hj hn) rfl (by decide) rfl (Nat.le_of_ble_eq_true rfl) dJ0_checkIndex_df160_5 (q := 8) rfl ?_
    rintro _ _ ⟨rfl, rfl⟩
    refine v_pop hC rfl dJ0_checkIndex_df160_8 (q := 9) rfl ?_
    refine hR _ _ _ ?_ dJ0_checkIndex_df160_9
    rfl

set_option maxHeartbeats 4000000 in
set_option maxRecDepth 100000 in
theorem c_J1_charAt_3b067 {l : Launch} {X : Gx} {f : Hp} {i : Nat} (hi : i < 11) {j : Nat} (hj : j < swN.getD i 0) : Ci l X yJ1_charAt_3b067 cJ1_charAt_3b067 2 (some .char) (rmk 2 43) [.ref (gV X i), .int (nI j)] (f) (fun z g => z = (swL.getD i []).getD j 0 ∧ g = f) := by
  refine ct_c (own := RJ1) (lv := [some (.ref (gV X i)), some (.int (nI j))]) (by decide) rfl (Nat.le_of_ble_eq_true rfl) (Nat.le_of_ble_eq_true rfl) rfl (fun C hC hR => ?_)
  have h7 := (sw_len ⟨i, hi⟩).2.2
  dsimp only at h7
  have hnr := sw_nar ⟨i, hi⟩ ⟨j, by omega⟩ hj
  dsimp only at hnr
  refine v_iload_n hC rfl dJ1_charAt_3b067_0 (q := 1) rfl ?_
  refine v_aload_n hC rfl dJ1_charAt_3b067_1 (q := 2) rfl ?_
  refine v_strL hC hi rfl dJ1_charAt_3b067_2 (q := 3) rfl ?_
  rw [(sw_len ⟨i, hi⟩).2.1]
  refine v_Sv hC lkS_J1_9 (c_J0_checkIndex_df160 hj (by omega)) rfl (by decide) rfl (Nat.le_of_ble_eq_true rfl) dJ1_charAt_3b067_3 (q := 6) rfl ?_
  rintro _ rfl
  refine v_aload_n hC rfl dJ1_charAt_3b067_6 (q := 7) rfl ?_
  refine v_iload_n hC rfl dJ1_charAt_3b067_7 (q := 8) rfl ?_
  refine v_strB hC hi (vp_in_nI hj (by omega)) dJ1_charAt_3b067_8 (q := 9) rfl ?_
  rw [nI_clamp (show j < 2147483648 by omega)]
  refine v_sipush hC (v := 255) rfl dJ1_charAt_3b067_9 (q := 12) rfl ?_
  refine v_iand hC dJ1_charAt_3b067_12 (q := 13) rfl ?_
  refine v_i2c hC dJ1_charAt_3b067_13 (q := 14) rfl ?_
  rw [sw_chr ⟨i, hi⟩ ⟨j, by omega⟩ hj]
  refine hR _ _ _ _ ?_ (by first | rfl | decide | assumption) dJ1_charAt_3b067_14
  exact ⟨rfl, rfl⟩

set_option maxHeartbeats 4000000 in
set_option maxRecDepth 100000 in
theorem c_J0_charAt_5068e {l : Launch} {X : Gx} {f : Hp} {i : Nat} (hi : i < 11) {j : Nat} (hj : j < swN.getD i 0) : Ci l X yJ0_charAt_5068e cJ0_charAt_5068e 2 (some .char) (rmk 3 64) [.ref (gK X i), .int (nI j)] (f) (fun z g => z = (swL.getD i []).getD j 0 ∧ g = f) := by
  refine ct_c (own := RJ0) (lv := [some (.ref (gK X i)), some (.int (nI j))]) (by decide) rfl (Nat.le_of_ble_eq_true rfl) (Nat.le_of_ble_eq_true rfl) rfl (fun C hC hR => ?_)
  have h7 := (sw_len ⟨i, hi⟩).2.2
  dsimp only at h7
  have hnr := sw_nar ⟨i, hi⟩ ⟨j, by omega⟩ hj
  dsimp only at hnr
  refine v_aload_n hC rfl dJ0_charAt_5068e_0 (q := 1) rfl ?_
  refine v_KI hC lkV_J0_492 (c_J0_isLatin1_aae02 hi) rfl (by decide) hi rfl (Nat.le_of_ble_eq_true rfl) dJ0_charAt_5068e_1 (q := 4) rfl ?_
  rintro _ _ ⟨rfl, rfl⟩
  refine v_if_eq hC dJ0_charAt_5068e_4 (t := 16) rfl (q := 7) rfl (fun h => absurd h (by decide)) (fun _ => ?_)
  refine v_aload_n hC rfl dJ0_charAt_5068e_7 (q := 8) rfl ?_
  refine v_strV hC hi wf_J0_9 dJ0_charAt_5068e_8 (q := 11) rfl ?_
  refine v_iload_n hC rfl dJ0_charAt_5068e_11 (q := 12) rfl ?_
  refine v_Si hC lkS_J0_495 (c_J1_charAt_3b067 hi hj) rfl (by decide) rfl (Nat.le_of_ble_eq_true rfl) dJ0_charAt_5068e_12 (q := 15) rfl ?_
  rintro _ _ ⟨rfl, rfl⟩
  refine hR _ _ _ _ ?_ (by first | rfl | decide | assumption) dJ0_charAt_5068e_15
  exact ⟨rfl, rfl⟩

theorem fstN_true {b : Nat → Bool} : ∀ d j k, fstN b d j = some k → b k = true
  | 0, _, _, h => by cases h
  | d + 1, j, k, h => by
    rw [fstN] at h
    split at h
    · cases h; assumption
    · exact fstN_true d (j + 1) k h
theorem fstN_none {b : Nat → Bool} : ∀ d j, fstN b d j = none → ∀ k, j ≤ k → k < j + d → ¬ b k = true
  | 0, j, _, k, h1, h2 => by omega
  | d + 1, j, h, k, h1, h2 => by
    rw [fstN] at h
    split at h
    · cases h
    · by_cases e : k = j
      · subst e; assumption
      · exact fstN_none d (j + 1) h k (by omega) (by omega)
theorem sw_one : ∀ w w' : Fin 11, swN.getD w.val 0 = swN.getD w'.val 0 → (∀ k : Fin 7, k.val < swN.getD w.val 0 → (swL.getD w.val []).getD k.val 0 = (swL.getD w'.val []).getD k.val 0) → w = w' := by decide +kernel
theorem mW_one {t : Nat → Int32} {s len w w' : Nat} (hw : w < 11) (hw' : w' < 11) (h : mW t s len w = true) (h' : mW t s len w' = true) : w = w' := by
  rw [mW, decide_eq_true_eq] at h h'
  have h7 := (sw_len ⟨w, hw⟩).2.2
  dsimp only at h7
  have := sw_one ⟨w, hw⟩ ⟨w', hw'⟩ (h.1.trans h'.1.symm) (fun k hk => by
    have hk' : k.val < len := by have := h.1; dsimp only at hk; omega
    exact (h.2 k.val hk').trans (h'.2 k.val hk').symm)
  exact congrArg Fin.val this
theorem word_iff {t : Nat → Int32} {s len w : Nat} (hw : w < 11) : wordF t s len = nI w ↔ mW t s len w = true := by
  unfold wordF
  cases e : wdF t s len with
  | none =>
    constructor
    · intro z; have := (nI_eq (a := 23) (b := w) (by decide) (by omega)).mp z; omega
    · intro z; exact absurd z (fstN_none _ _ ((wdF_eq t s len).symm.trans e) w (by omega) (by omega))
  | some x =>
    have h1 := fstN_lt _ _ _ ((wdF_eq t s len).symm.trans e)
    have h2 := fstN_true _ _ _ ((wdF_eq t s len).symm.trans e)
    constructor
    · intro z; have := (nI_eq (a := x) (b := w) (by omega) (by omega)).mp z; subst this; exact h2
    · intro z; rw [mW_one hw (by omega) z h2]
theorem tkw_1 {t : Nat → Int32} {T p w : Nat} (hw : w < 11) (h : tkC t T p = 1) : tkK t T p = nI w ↔ mW t (tkS t T p) (tkE t T p - tkS t T p) w = true := by
  obtain ⟨h1, h2⟩ := tkc_1 h
  have e1 : tkK t T p = wordF t (tkS t T p) (enW t T (tkS t T p) - tkS t T p) := by unfold tkK; rw [if_neg h1, if_pos h2]
  have e2 : tkE t T p = enW t T (tkS t T p) := by unfold tkE; rw [if_neg h1, if_pos h2]
  rw [e1, e2]
  exact word_iff hw
theorem tkw_n {t : Nat → Int32} {T p w : Nat} (hw : w < 11) (h : ¬ tkC t T p = 1) : ¬ tkK t T p = nI w := by
  have hx : ∀ x : Fin 24, 11 ≤ x.val → ¬ nI x.val = nI w := fun x hx z => by have := (nI_eq (a := x.val) (b := w) (by omega) (by omega)).mp z; omega
  unfold tkC at h
  unfold tkK
  by_cases h1 : tkS t T p = T
  · rw [if_pos h1]; exact hx ⟨22, by decide⟩ (by decide)
  rw [if_neg h1] at h ⊢
  by_cases h2 : isL t (tkS t T p) = true
  · rw [if_pos h2] at h; exact absurd rfl h
  rw [if_neg h2]
  split
  · exact hx ⟨20, by decide⟩ (by decide)
  · split
    · exact hx ⟨21, by decide⟩ (by decide)
    · exact hx ⟨23, by decide⟩ (by decide)
set_option maxHeartbeats 4000000 in
set_option maxRecDepth 100000 in
theorem c_X3_isAtWord {l : Launch} {X : Gx} {M : MS} {q nu : Nat → Nat → Int32} {vc : Nat → Nat → Nat → Int32} {sb : Nat → Nat → Int32} {by_ : Nat → Int32} {sh : Nat → Nat → Int32} {nn : Nat → Nat → Int64} {fo : Nat → Int32} {kp : Int32} {T : Nat} (hT : T ≤ 120) {p : Nat} (hp1 : p ≤ T) {w : Nat} (hw : w < 11) : Ci l X yX3_isAtWord cX3_isAtWord 3 (some .boolean) (rmk 4 85) [.ref (ga X 35), .ref (gK X w)] (ch X M q nu vc sb (iv [nI T, tkC by_ T (p), nI (tkS by_ T (p)), nI (tkE by_ T (p))]) by_ sh nn fo kp) (fun z g => (tkK by_ T p = nI w ∧ z = 1 ∨ ¬ tkK by_ T p = nI w ∧ z = 0) ∧ g = ch X M q nu vc sb (iv [nI T, tkC by_ T (p), nI (tkS by_ T (p)), nI (tkE by_ T (p))]) by_ sh nn fo kp) := by
  refine ct_z (own := RX3) (lv := [some (.ref (ga X 35)), some (.ref (gK X w)), none]) (by decide) rfl (Nat.le_of_ble_eq_true rfl) (Nat.le_of_ble_eq_true rfl) rfl (fun C hC hR => ?_)
  have h7 := (sw_len ⟨w, hw⟩).2.2
  dsimp only at h7
  have hse := tkE_le (t := by_) hp1
  have main : tkC by_ T p = 1 → tkE by_ T p - tkS by_ T p = swN.getD w 0 → V l X (rmk 4 85) C (ch X M q nu vc sb (iv [nI T, tkC by_ T (p), nI (tkS by_ T (p)), nI (tkE by_ T (p))]) by_ sh nn fo kp) 28 [some (.ref (ga X 35)), some (.ref (gK X w)), some (.int (nI 0))] [] := by
    intro h1 hlen
    have loop : ∀ j, j ≤ swN.getD w 0 → (∀ k, k < j → (swL.getD w []).getD k 0 = by_ (tkS by_ T p + k)) → V l X (rmk 4 85) C (ch X M q nu vc sb (iv [nI T, tkC by_ T (p), nI (tkS by_ T (p)), nI (tkE by_ T (p))]) by_ sh nn fo kp) 28 [some (.ref (ga X 35)), some (.ref (gK X w)), some (.int (nI j))] [] := by
      refine v_up (swN.getD w 0) ?_ ?_
      · intro hI
        refine v_iload_n hC rfl dX3_isAtWord_28 (q := 29) rfl ?_
        refine v_aload_n hC rfl dX3_isAtWord_29 (q := 30) rfl ?_
        refine v_KI hC lkV_X3_38 (c_J0_length_8abf5 hw) rfl (by decide) hw rfl (Nat.le_of_ble_eq_true rfl) dX3_isAtWord_30 (q := 33) rfl ?_
        rintro _ _ ⟨rfl, rfl⟩
        refine v_icmp_ge hC dX3_isAtWord_33 (t := 63) rfl (q := 36) rfl (fun _ => ?_) (fun h => absurd (Int32.le_refl _) h)
        refine v_iconst hC (v := 1) rfl dX3_isAtWord_63 (q := 64) rfl ?_
        refine hR _ _ _ _ ?_ (by first | rfl | decide | assumption) dX3_isAtWord_64
        refine ⟨Or.inl ⟨(tkw_1 hw h1).mpr ?_, rfl⟩, rfl⟩
        rw [mW, decide_eq_true_eq, hlen]
        exact ⟨rfl, hI⟩
      · intro j hj ih hI
        refine v_iload_n hC rfl dX3_isAtWord_28 (q := 29) rfl ?_
        refine v_aload_n hC rfl dX3_isAtWord_29 (q := 30) rfl ?_
        refine v_KI hC lkV_X3_38 (c_J0_length_8abf5 hw) rfl (by decide) hw rfl (Nat.le_of_ble_eq_true rfl) dX3_isAtWord_30 (q := 33) rfl ?_
        rintro _ _ ⟨rfl, rfl⟩
        refine v_icmp_ge hC dX3_isAtWord_33 (t := 63) rfl (q := 36) rfl (fun h => absurd h (nI_ge hj (by omega))) (fun _ => ?_)
        refine v_aload_n hC rfl dX3_isAtWord_36 (q := 37) rfl ?_
        refine v_get hC fl_X3_9 (k := 35) (by decide) ch_35v rfl dX3_isAtWord_37 (q := 40) rfl ?_
        refine v_aload_n hC rfl dX3_isAtWord_40 (q := 41) rfl ?_
        refine v_get hC fl_X3_22 (k := 35) (by decide) ch_35v rfl dX3_isAtWord_41 (q := 44) rfl ?_
        refine v_iload_n hC rfl dX3_isAtWord_44 (q := 45) rfl ?_
        refine v_iadd hC dX3_isAtWord_45 (q := 46) rfl ?_
        refine v_iald hC (k := 36) (by decide) ch_36 (by rw [nI_add]; exact ix120' (by omega)) (j := tkS by_ T p + j) (by rw [nI_add]; exact nI_clamp (by omega)) dX3_isAtWord_46 (q := 47) rfl ?_
        refine v_aload_n hC rfl dX3_isAtWord_47 (q := 48) rfl ?_
        refine v_iload_n hC rfl dX3_isAtWord_48 (q := 49) rfl ?_
        refine v_KI hC lkV_X3_43 (c_J0_charAt_5068e hw hj) rfl (by decide) hw rfl (Nat.le_of_ble_eq_true rfl) dX3_isAtWord_49 (q := 52) rfl ?_
        rintro _ _ ⟨rfl, rfl⟩
        refine v_icmp_eq hC dX3_isAtWord_52 (t := 57) rfl (q := 55) rfl (fun h52 => ?_) (fun h52 => ?_)
        · refine v_iinc_2 hC (v := _ + 1) rfl rfl dX3_isAtWord_57 (q := 60) rfl ?_
          refine v_goto hC dX3_isAtWord_60 (t := 28) rfl ?_
          refine v_same rfl ?_ rfl (ih (lt_s hI h52.symm))
          simp [nI_1]
        · refine v_iconst hC (v := 0) rfl dX3_isAtWord_55 (q := 56) rfl ?_
          refine hR _ _ _ _ ?_ (by first | rfl | decide | assumption) dX3_isAtWord_56
          refine ⟨Or.inr ⟨fun z => h52 ?_, rfl⟩, rfl⟩
          have z2 := (tkw_1 hw h1).mp z
          rw [mW, decide_eq_true_eq, hlen] at z2
          exact (z2.2 j hj).symm
    exact loop 0 (Nat.zero_le _) (fun k hk => absurd hk (Nat.not_lt_zero _))
  refine v_aload_n hC rfl dX3_isAtWord_0 (q := 1) rfl ?_
  refine v_get hC fl_X3_19 (k := 35) (by decide) ch_35v rfl dX3_isAtWord_1 (q := 4) rfl ?_
  refine v_iconst hC (v := 1) rfl dX3_isAtWord_4 (q := 5) rfl ?_
  refine v_icmp_ne hC dX3_isAtWord_5 (t := 24) rfl (q := 8) rfl (fun h5 => ?_) (fun h5 => ?_)
  · refine v_iconst hC (v := 0) rfl dX3_isAtWord_24 (q := 25) rfl ?_
    refine hR _ _ _ _ ?_ (by first | rfl | decide | assumption) dX3_isAtWord_25
    exact ⟨Or.inr ⟨tkw_n hw h5, rfl⟩, rfl⟩
  · refine v_aload_n hC rfl dX3_isAtWord_8 (q := 9) rfl ?_
    refine v_get hC fl_X3_25 (k := 35) (by decide) ch_35v rfl dX3_isAtWord_9 (q := 12) rfl ?_
    refine v_aload_n hC rfl dX3_isAtWord_12 (q := 13) rfl ?_
    refine v_get hC fl_X3_22 (k := 35) (by decide) ch_35v rfl dX3_isAtWord_13 (q := 16) rfl ?_
    refine v_isub hC dX3_isAtWord_16 (q := 17) rfl ?_
    rw [pk_sub hse.1]
    refine v_aload_n hC rfl dX3_isAtWord_17 (q := 18) rfl ?_
    refine v_KI hC lkV_X3_38 (c_J0_length_8abf5 hw) rfl (by decide) hw rfl (Nat.le_of_ble_eq_true rfl) dX3_isAtWord_18 (q := 21) rfl ?_
    rintro _ _ ⟨rfl, rfl⟩
    refine v_icmp_eq hC dX3_isAtWord_21 (t := 26) rfl (q := 24) rfl (fun h21 => ?_) (fun h21 => ?_)
    · refine v_iconst hC (v := 0) rfl dX3_isAtWord_26 (q := 27) rfl ?_
      refine v_istore_2 hC rfl dX3_isAtWord_27 (q := 28) rfl ?_
      exact main h5 ((nI_eq (by omega) (by omega)).mp h21)
    · refine v_iconst hC (v := 0) rfl dX3_isAtWord_24 (q := 25) rfl ?_
      refine hR _ _ _ _ ?_ (by first | rfl | decide | assumption) dX3_isAtWord_25
      refine ⟨Or.inr ⟨fun z => h21 ?_, rfl⟩, rfl⟩
      have z2 := (tkw_1 hw h5).mp z
      rw [mW, decide_eq_true_eq] at z2
      rw [z2.1]
