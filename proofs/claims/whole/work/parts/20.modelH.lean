set_option maxHeartbeats 4000000 in
set_option maxRecDepth 100000 in
theorem c_X6_passes {l : Launch} {X : Gx} {S : CS} {m : Nat → Int32} {r : Nat → Nat → Int32} {c : Nat → Int64} {a0 : Int32} {T : Nat} (hT : T ≤ 120) {p : Nat} (hp1 : p ≤ T) {w : Int32} : Ci l X yX6_passes cX6_passes 2 (some .boolean) (rmk 3 66) [.ref (ga X 47), .int w] (hp X S (iv [a0, nI T, tkK (r 4) T (p), nI (tkS (r 4) T (p)), nI (tkE (r 4) T (p)), tkV (r 4) T (p), 0], m, r, c)) (fun z g => (tkK (r 4) T p = w ∧ z = 1 ∧ g = hp X S (iv [a0, nI T, tkK (r 4) T (tkE (r 4) T p), nI (tkS (r 4) T (tkE (r 4) T p)), nI (tkE (r 4) T (tkE (r 4) T p)), tkV (r 4) T (tkE (r 4) T p), 0], m, r, c)) ∨ (¬ tkK (r 4) T p = w ∧ z = 0 ∧ g = hp X S (iv [a0, nI T, tkK (r 4) T (p), nI (tkS (r 4) T (p)), nI (tkE (r 4) T (p)), tkV (r 4) T (p), 0], m, r, c))) := by
  refine ct_z (own := RX6) (lv := [some (.ref (ga X 47)), some (.int w)]) (by decide) rfl (Nat.le_of_ble_eq_true rfl) (Nat.le_of_ble_eq_true rfl) rfl (fun C hC hR => ?_)
  have hE := (tkE_le (t := r 4) hp1).2
  refine v_aload_n hC rfl dX6_passes_0 (q := 1) rfl ?_
  refine v_get hC fl_X6_176 (k := 47) (by decide) hp_47v rfl dX6_passes_1 (q := 4) rfl ?_
  refine v_if_ne hC dX6_passes_4 (t := 15) rfl (q := 7) rfl (fun h => absurd (by decide) h) (fun _ => ?_)
  refine v_aload_n hC rfl dX6_passes_7 (q := 8) rfl ?_
  refine v_get hC fl_X6_170 (k := 47) (by decide) hp_47v rfl dX6_passes_8 (q := 11) rfl ?_
  refine v_iload_n hC rfl dX6_passes_11 (q := 12) rfl ?_
  refine v_icmp_eq hC dX6_passes_12 (t := 17) rfl (q := 15) rfl (fun h12 => ?_) (fun h12 => ?_)
  · refine v_aload_n hC rfl dX6_passes_17 (q := 18) rfl ?_
    refine v_Vv hC lkV_X6_180 (c_X6_reads hT (by first | assumption | omega)) rfl (by decide) (k := 47) (by decide) hp_47 rfl rfl (Nat.le_of_ble_eq_true rfl) dX6_passes_18 (q := 21) rfl ?_
    rintro _ rfl
    refine v_iconst hC (v := 1) rfl dX6_passes_21 (q := 22) rfl ?_
    refine hR _ _ _ _ ?_ (by first | rfl | decide | assumption) dX6_passes_22
    exact Or.inl ⟨h12, rfl, rfl⟩
  · refine v_iconst hC (v := 0) rfl dX6_passes_15 (q := 16) rfl ?_
    refine hR _ _ _ _ ?_ (by first | rfl | decide | assumption) dX6_passes_16
    exact Or.inr ⟨h12, rfl, rfl⟩

set_option maxHeartbeats 4000000 in
set_option maxRecDepth 100000 in
theorem c_X6_passes1 {l : Launch} {X : Gx} {S : CS} {m : Nat → Int32} {r : Nat → Nat → Int32} {c : Nat → Int64} {a0 : Int32} {T : Nat} (hT : T ≤ 120) {p : Nat} {w : Int32} : Ci l X yX6_passes cX6_passes 2 (some .boolean) (rmk 3 66) [.ref (ga X 47), .int w] (hp X S (iv [a0, nI T, tkK (r 4) T (p), nI (tkS (r 4) T (p)), nI (tkE (r 4) T (p)), tkV (r 4) T (p), 1], m, r, c)) (fun z g => z = 0 ∧ g = hp X S (iv [a0, nI T, tkK (r 4) T (p), nI (tkS (r 4) T (p)), nI (tkE (r 4) T (p)), tkV (r 4) T (p), 1], m, r, c)) := by
  refine ct_z (own := RX6) (lv := [some (.ref (ga X 47)), some (.int w)]) (by decide) rfl (Nat.le_of_ble_eq_true rfl) (Nat.le_of_ble_eq_true rfl) rfl (fun C hC hR => ?_)
  refine v_aload_n hC rfl dX6_passes_0 (q := 1) rfl ?_
  refine v_get hC fl_X6_176 (k := 47) (by decide) hp_47v rfl dX6_passes_1 (q := 4) rfl ?_
  refine v_if_ne hC dX6_passes_4 (t := 15) rfl (q := 7) rfl (fun _ => ?_) (fun h => absurd h (by decide))
  refine v_iconst hC (v := 0) rfl dX6_passes_15 (q := 16) rfl ?_
  refine hR _ _ _ _ ?_ (by first | rfl | decide | assumption) dX6_passes_16
  exact ⟨rfl, rfl⟩

set_option maxHeartbeats 4000000 in
set_option maxRecDepth 100000 in
theorem c_X6_number {l : Launch} {X : Gx} {S : CS} {m : Nat → Int32} {r : Nat → Nat → Int32} {c : Nat → Int64} {a0 : Int32} {T : Nat} (hT : T ≤ 120) {p : Nat} (hp1 : p ≤ T) {lo hi : Int32} : Ci l X yX6_number cX6_number 4 (some .int) (rmk 3 66) [.ref (ga X 47), .int lo, .int hi] (hp X S (iv [a0, nI T, tkK (r 4) T (p), nI (tkS (r 4) T (p)), nI (tkE (r 4) T (p)), tkV (r 4) T (p), 0], m, r, c)) (fun z g => ((tkK (r 4) T p = 20 ∧ lo ≤ tkV (r 4) T p ∧ tkV (r 4) T p ≤ hi) ∧ z = tkV (r 4) T p ∧ g = hp X S (iv [a0, nI T, tkK (r 4) T (tkE (r 4) T p), nI (tkS (r 4) T (tkE (r 4) T p)), nI (tkE (r 4) T (tkE (r 4) T p)), tkV (r 4) T (tkE (r 4) T p), 0], m, r, c)) ∨ (¬ (tkK (r 4) T p = 20 ∧ lo ≤ tkV (r 4) T p ∧ tkV (r 4) T p ≤ hi) ∧ z = tkV (r 4) T p ∧ g = hp X S (iv [a0, nI T, tkK (r 4) T (p), nI (tkS (r 4) T (p)), nI (tkE (r 4) T (p)), tkV (r 4) T (p), 1], m, r, c))) := by
  refine ct_i (own := RX6) (lv := [some (.ref (ga X 47)), some (.int lo), some (.int hi), none]) (by decide) rfl (Nat.le_of_ble_eq_true rfl) (Nat.le_of_ble_eq_true rfl) rfl (fun C hC hR => ?_)
  have hE := (tkE_le (t := r 4) hp1).2
  refine v_aload_n hC rfl dX6_number_0 (q := 1) rfl ?_
  refine v_get hC fl_X6_167 (k := 47) (by decide) hp_47v rfl dX6_number_1 (q := 4) rfl ?_
  refine v_istore_3 hC rfl dX6_number_4 (q := 5) rfl ?_
  refine v_aload_n hC rfl dX6_number_5 (q := 6) rfl ?_
  refine v_aload_n hC rfl dX6_number_6 (q := 7) rfl ?_
  refine v_get hC fl_X6_176 (k := 47) (by decide) hp_47v rfl dX6_number_7 (q := 10) rfl ?_
  refine v_if_ne hC dX6_number_10 (t := 32) rfl (q := 13) rfl (fun h => absurd (by decide) h) (fun _ => ?_)
  refine v_aload_n hC rfl dX6_number_13 (q := 14) rfl ?_
  refine v_get hC fl_X6_170 (k := 47) (by decide) hp_47v rfl dX6_number_14 (q := 17) rfl ?_
  refine v_bipush hC (v := 20) rfl dX6_number_17 (q := 19) rfl ?_
  refine v_icmp_ne hC dX6_number_19 (t := 32) rfl (q := 22) rfl (fun h19 => ?_) (fun h19 => ?_)
  · refine v_iconst hC (v := 1) rfl dX6_number_32 (q := 33) rfl ?_
    refine v_goto hC dX6_number_33 (t := 37) rfl ?_
    refine v_put hC fl_X6_176 pt_5_11 (k := 47) (by decide) hp_47v (Nat.le_of_ble_eq_true rfl) rfl rfl (hpv_6 _) dX6_number_37 (q := 40) rfl ?_
    refine v_aload_n hC rfl dX6_number_40 (q := 41) rfl ?_
    refine v_get hC fl_X6_176 (k := 47) (by decide) hp_47v rfl dX6_number_41 (q := 44) rfl ?_
    refine v_if_ne hC dX6_number_44 (t := 51) rfl (q := 47) rfl (fun _ => ?_) (fun h => absurd h (by decide))
    refine v_iload_n hC rfl dX6_number_51 (q := 52) rfl ?_
    refine hR _ _ _ _ ?_ dX6_number_52
    exact Or.inr ⟨fun z => h19 z.1, rfl, rfl⟩
  · refine v_iload_n hC rfl dX6_number_22 (q := 23) rfl ?_
    refine v_i2l hC dX6_number_23 (q := 24) rfl ?_
    refine v_iload_n hC rfl dX6_number_24 (q := 25) rfl ?_
    refine v_iload_n hC rfl dX6_number_25 (q := 26) rfl ?_
    refine v_Si hC lkS_X6_41 c_X6_in rfl (by decide) rfl (Nat.le_of_ble_eq_true rfl) dX6_number_26 (q := 29) rfl ?_
    rintro _ _ ⟨⟨hc26, rfl⟩ | ⟨hc26, rfl⟩, rfl⟩
    · refine v_if_ne hC dX6_number_29 (t := 36) rfl (q := 32) rfl (fun _ => ?_) (fun h => absurd h (by decide))
      refine v_iconst hC (v := 0) rfl dX6_number_36 (q := 37) rfl ?_
      refine v_put hC fl_X6_176 pt_5_11 (k := 47) (by decide) hp_47v (Nat.le_of_ble_eq_true rfl) rfl rfl (hpv_6 _) dX6_number_37 (q := 40) rfl ?_
      refine v_aload_n hC rfl dX6_number_40 (q := 41) rfl ?_
      refine v_get hC fl_X6_176 (k := 47) (by decide) hp_47v rfl dX6_number_41 (q := 44) rfl ?_
      refine v_if_ne hC dX6_number_44 (t := 51) rfl (q := 47) rfl (fun h => absurd (by decide) h) (fun _ => ?_)
      refine v_aload_n hC rfl dX6_number_47 (q := 48) rfl ?_
      refine v_Vv hC lkV_X6_180 (c_X6_reads hT (by first | assumption | omega)) rfl (by decide) (k := 47) (by decide) hp_47 rfl rfl (Nat.le_of_ble_eq_true rfl) dX6_number_48 (q := 51) rfl ?_
      rintro _ rfl
      refine v_iload_n hC rfl dX6_number_51 (q := 52) rfl ?_
      refine hR _ _ _ _ ?_ dX6_number_52
      exact Or.inl ⟨⟨h19, hc26⟩, rfl, rfl⟩
    · refine v_if_ne hC dX6_number_29 (t := 36) rfl (q := 32) rfl (fun h => absurd h (by decide)) (fun _ => ?_)
      refine v_iconst hC (v := 1) rfl dX6_number_32 (q := 33) rfl ?_
      refine v_goto hC dX6_number_33 (t := 37) rfl ?_
      refine v_put hC fl_X6_176 pt_5_11 (k := 47) (by decide) hp_47v (Nat.le_of_ble_eq_true rfl) rfl rfl (hpv_6 _) dX6_number_37 (q := 40) rfl ?_
      refine v_aload_n hC rfl dX6_number_40 (q := 41) rfl ?_
      refine v_get hC fl_X6_176 (k := 47) (by decide) hp_47v rfl dX6_number_41 (q := 44) rfl ?_
      refine v_if_ne hC dX6_number_44 (t := 51) rfl (q := 47) rfl (fun _ => ?_) (fun h => absurd h (by decide))
      refine v_iload_n hC rfl dX6_number_51 (q := 52) rfl ?_
      refine hR _ _ _ _ ?_ dX6_number_52
      exact Or.inr ⟨fun z => hc26 z.2, rfl, rfl⟩

set_option maxHeartbeats 4000000 in
set_option maxRecDepth 100000 in
theorem c_X6_perhaps {l : Launch} {X : Gx} {S : CS} {m : Nat → Int32} {r : Nat → Nat → Int32} {c : Nat → Int64} {a0 : Int32} {T : Nat} (hT : T ≤ 120) {p : Nat} (hp1 : p ≤ T) {w lo hi so : Int32} : Ci l X yX6_perhaps cX6_perhaps 5 (some .int) (rmk 4 89) [.ref (ga X 47), .int w, .int lo, .int hi, .int so] (hp X S (iv [a0, nI T, tkK (r 4) T (p), nI (tkS (r 4) T (p)), nI (tkE (r 4) T (p)), tkV (r 4) T (p), 0], m, r, c)) (fun z g => (∃ v p2, p2 ≤ T ∧ perS (r 4) T p w lo hi so = .inr (v, p2) ∧ z = v ∧ g = hp X S (iv [a0, nI T, tkK (r 4) T (p2), nI (tkS (r 4) T (p2)), nI (tkE (r 4) T (p2)), tkV (r 4) T (p2), 0], m, r, c)) ∨ (∃ q v, q ≤ T ∧ perS (r 4) T p w lo hi so = .inl q ∧ z = v ∧ g = hp X S (iv [a0, nI T, tkK (r 4) T (q), nI (tkS (r 4) T (q)), nI (tkE (r 4) T (q)), tkV (r 4) T (q), 1], m, r, c))) := by
  refine ct_i (own := RX6) (lv := [some (.ref (ga X 47)), some (.int w), some (.int lo), some (.int hi), some (.int so)]) (by decide) rfl (Nat.le_of_ble_eq_true rfl) (Nat.le_of_ble_eq_true rfl) rfl (fun C hC hR => ?_)
  have hE := (tkE_le (t := r 4) hp1).2
  have hE2 := (tkE_le (t := r 4) hE).2
  refine v_aload_n hC rfl dX6_perhaps_0 (q := 1) rfl ?_
  refine v_iload_n hC rfl dX6_perhaps_1 (q := 2) rfl ?_
  refine v_Vi hC lkV_X6_183 (c_X6_passes hT (by assumption)) rfl (by decide) (k := 47) (by decide) hp_47 rfl rfl (Nat.le_of_ble_eq_true rfl) dX6_perhaps_2 (q := 5) rfl ?_
  rintro _ _ (⟨hc2, rfl, rfl⟩ | ⟨hc2, rfl, rfl⟩)
  · refine v_if_eq hC dX6_perhaps_5 (t := 17) rfl (q := 8) rfl (fun h => absurd h (by decide)) (fun _ => ?_)
    refine v_aload_n hC rfl dX6_perhaps_8 (q := 9) rfl ?_
    refine v_iload_n hC rfl dX6_perhaps_9 (q := 10) rfl ?_
    refine v_iload_n hC rfl dX6_perhaps_10 (q := 11) rfl ?_
    refine v_Vi hC lkV_X6_186 (c_X6_number hT (by assumption)) rfl (by decide) (k := 47) (by decide) hp_47 rfl rfl (Nat.le_of_ble_eq_true rfl) dX6_perhaps_11 (q := 14) rfl ?_
    rintro _ _ (⟨hn11, rfl, rfl⟩ | ⟨hn11, rfl, rfl⟩)
    · refine v_goto hC dX6_perhaps_14 (t := 19) rfl ?_
      refine hR _ _ _ _ ?_ dX6_perhaps_19
      exact Or.inl ⟨_, _, hE2, by simp only [perS, if_pos hc2, if_pos hn11], rfl, rfl⟩
    · refine v_goto hC dX6_perhaps_14 (t := 19) rfl ?_
      refine hR _ _ _ _ ?_ dX6_perhaps_19
      exact Or.inr ⟨_, _, hE, by simp only [perS, if_pos hc2, if_neg hn11], rfl, rfl⟩
  · refine v_if_eq hC dX6_perhaps_5 (t := 17) rfl (q := 8) rfl (fun _ => ?_) (fun h => absurd h (by decide))
    refine v_iload hC rfl dX6_perhaps_17 (q := 19) rfl ?_
    refine hR _ _ _ _ ?_ dX6_perhaps_19
    exact Or.inl ⟨_, _, hp1, by simp only [perS, if_neg hc2], rfl, rfl⟩

set_option maxHeartbeats 4000000 in
set_option maxRecDepth 100000 in
theorem c_X6_perhaps1 {l : Launch} {X : Gx} {S : CS} {m : Nat → Int32} {r : Nat → Nat → Int32} {c : Nat → Int64} {a0 : Int32} {T : Nat} (hT : T ≤ 120) {p : Nat} {w lo hi so : Int32} : Ci l X yX6_perhaps cX6_perhaps 5 (some .int) (rmk 4 89) [.ref (ga X 47), .int w, .int lo, .int hi, .int so] (hp X S (iv [a0, nI T, tkK (r 4) T (p), nI (tkS (r 4) T (p)), nI (tkE (r 4) T (p)), tkV (r 4) T (p), 1], m, r, c)) (fun z g => z = so ∧ g = hp X S (iv [a0, nI T, tkK (r 4) T (p), nI (tkS (r 4) T (p)), nI (tkE (r 4) T (p)), tkV (r 4) T (p), 1], m, r, c)) := by
  refine ct_i (own := RX6) (lv := [some (.ref (ga X 47)), some (.int w), some (.int lo), some (.int hi), some (.int so)]) (by decide) rfl (Nat.le_of_ble_eq_true rfl) (Nat.le_of_ble_eq_true rfl) rfl (fun C hC hR => ?_)
  refine v_aload_n hC rfl dX6_perhaps_0 (q := 1) rfl ?_
  refine v_iload_n hC rfl dX6_perhaps_1 (q := 2) rfl ?_
  refine v_Vi hC lkV_X6_183 (c_X6_passes1 hT) rfl (by decide) (k := 47) (by decide) hp_47 rfl rfl (Nat.le_of_ble_eq_true rfl) dX6_perhaps_2 (q := 5) rfl ?_
  rintro _ _ (⟨rfl, rfl⟩)
  · refine v_if_eq hC dX6_perhaps_5 (t := 17) rfl (q := 8) rfl (fun _ => ?_) (fun h => absurd h (by decide))
    refine v_iload hC rfl dX6_perhaps_17 (q := 19) rfl ?_
    refine hR _ _ _ _ ?_ dX6_perhaps_19
    exact ⟨rfl, rfl⟩

theorem newP_1 {m : Nat → Int32} {n : Nat} {kd gr at_ : Int32} (hN : m 1 = nI n) : newP m n kd gr at_ 1 = nI (n + 1) := by
  simp only [newP, pu_1]
  simp only [upd]
  simp only [if_true]
  rw [hN, nI_1]
theorem groundM_1 {m : Nat → Int32} {p : Nat} : groundM m p 1 = m 1 := by simp only [groundM, pu_1]
set_option maxHeartbeats 4000000 in
set_option maxRecDepth 100000 in
theorem c_X6_personItem {l : Launch} {X : Gx} {S : CS} {m : Nat → Int32} {r : Nat → Nat → Int32} {c : Nat → Int64} {a0 : Int32} {T : Nat} (hT : T ≤ 120) {p : Nat} (hp1 : p ≤ T) {n : Nat} (hN : m 1 = nI n) (h8 : n ≤ 8) : Cv l X yX6_personItem cX6_personItem 5 (none) (rmk 5 113) [.ref (ga X 47)] (hp X S (iv [a0, nI T, tkK (r 4) T (p), nI (tkS (r 4) T (p)), nI (tkE (r 4) T (p)), tkV (r 4) T (p), 0], m, r, c)) (fun g => (∃ m2 p2 n2, p2 ≤ T ∧ perI (r 4) T n m p = .inr (m2, p2) ∧ m2 1 = nI n2 ∧ n2 ≤ 8 ∧ g = hp X S (iv [a0, nI T, tkK (r 4) T (p2), nI (tkS (r 4) T (p2)), nI (tkE (r 4) T (p2)), tkV (r 4) T (p2), 0], m2, r, c)) ∨ (∃ q m2, q ≤ T ∧ perI (r 4) T n m p = .inl q ∧ g = hp X S (iv [a0, nI T, tkK (r 4) T (q), nI (tkS (r 4) T (q)), nI (tkE (r 4) T (q)), tkV (r 4) T (q), 1], m2, r, c))) := by
  refine ct_v (own := RX6) (lv := [some (.ref (ga X 47)), none, none, none, none]) (by decide) rfl (Nat.le_of_ble_eq_true rfl) (Nat.le_of_ble_eq_true rfl) rfl (fun C hC hR => ?_)
  have hE := (tkE_le (t := r 4) hp1).2
  refine v_aload_n hC rfl dX6_personItem_0 (q := 1) rfl ?_
  refine v_get hC fl_X6_170 (k := 47) (by decide) hp_47v rfl dX6_personItem_1 (q := 4) rfl ?_
  refine v_istore_1 hC rfl dX6_personItem_4 (q := 5) rfl ?_
  refine v_aload_n hC rfl dX6_personItem_5 (q := 6) rfl ?_
  refine v_aload_n hC rfl dX6_personItem_6 (q := 7) rfl ?_
  refine v_get hC fl_X6_9 (k := 47) (by decide) hp_47v rfl dX6_personItem_7 (q := 10) rfl ?_
  refine v_iconst hC (v := 1) rfl dX6_personItem_10 (q := 11) rfl ?_
  refine v_iald hC (k := 48) (by decide) hp_48 (vp_l (by decide)) (j := 1) rfl dX6_personItem_11 (q := 12) rfl ?_
  refine v_bipush hC (v := 8) rfl dX6_personItem_12 (q := 14) rfl ?_
  refine v_icmp_ne hC dX6_personItem_14 (t := 21) rfl (q := 17) rfl (fun h14 => ?_) (fun h14 => ?_)
  · refine v_iconst hC (v := 0) rfl dX6_personItem_21 (q := 22) rfl ?_
    refine v_put hC fl_X6_176 pt_5_11 (k := 47) (by decide) hp_47v (Nat.le_of_ble_eq_true rfl) rfl rfl (hpv_6 _) dX6_personItem_22 (q := 25) rfl ?_
    refine v_aload_n hC rfl dX6_personItem_25 (q := 26) rfl ?_
    refine v_get hC fl_X6_176 (k := 47) (by decide) hp_47v rfl dX6_personItem_26 (q := 29) rfl ?_
    refine v_if_eq hC dX6_personItem_29 (t := 33) rfl (q := 32) rfl (fun _ => ?_) (fun h => absurd (by decide) h)
    have h8b : ¬ n = 8 := fun z => h14 (by rw [hN, z]; rfl)
    refine v_aload_n hC rfl dX6_personItem_33 (q := 34) rfl ?_
    refine v_Vv hC lkV_X6_180 (c_X6_reads hT (by first | assumption | omega)) rfl (by decide) (k := 47) (by decide) hp_47 rfl rfl (Nat.le_of_ble_eq_true rfl) dX6_personItem_34 (q := 37) rfl ?_
    rintro _ rfl
    refine v_aload_n hC rfl dX6_personItem_37 (q := 38) rfl ?_
    refine v_bipush hC (v := 6) rfl dX6_personItem_38 (q := 40) rfl ?_
    refine v_iconst hC (v := 0) rfl dX6_personItem_40 (q := 41) rfl ?_
    refine v_bipush hC (v := 99) rfl dX6_personItem_41 (q := 43) rfl ?_
    refine v_bipush hC (v := 20) rfl dX6_personItem_43 (q := 45) rfl ?_
    refine v_Vi hC lkV_X6_189 (c_X6_perhaps hT hE) rfl (by decide) (k := 47) (by decide) hp_47 rfl rfl (Nat.le_of_ble_eq_true rfl) dX6_personItem_45 (q := 48) rfl ?_
    rintro _ _ (⟨v45, p45, hq45, hs45, rfl, rfl⟩ | ⟨p45, v45, hq45, hs45, rfl, rfl⟩)
    · refine v_istore_2 hC rfl dX6_personItem_48 (q := 49) rfl ?_
      refine v_aload_n hC rfl dX6_personItem_49 (q := 50) rfl ?_
      refine v_bipush hC (v := 7) rfl dX6_personItem_50 (q := 52) rfl ?_
      refine v_iconst hC (v := 0) rfl dX6_personItem_52 (q := 53) rfl ?_
      refine v_aload_n hC rfl dX6_personItem_53 (q := 54) rfl ?_
      refine v_get hC fl_X6_9 (k := 47) (by decide) hp_47v rfl dX6_personItem_54 (q := 57) rfl ?_
      refine v_iconst hC (v := 1) rfl dX6_personItem_57 (q := 58) rfl ?_
      refine v_iald hC (k := 48) (by decide) hp_48 (vp_l (by decide)) (j := 1) rfl dX6_personItem_58 (q := 59) rfl ?_
      refine v_iconst hC (v := (-1)) rfl dX6_personItem_59 (q := 60) rfl ?_
      rw [hN]
      refine v_Vi hC lkV_X6_189 (c_X6_perhaps hT hq45) rfl (by decide) (k := 47) (by decide) hp_47 rfl rfl (Nat.le_of_ble_eq_true rfl) dX6_personItem_60 (q := 63) rfl ?_
      rintro _ _ (⟨v60, p60, hq60, hs60, rfl, rfl⟩ | ⟨p60, v60, hq60, hs60, rfl, rfl⟩)
      · refine v_istore_3 hC rfl dX6_personItem_63 (q := 64) rfl ?_
        refine v_aload_n hC rfl dX6_personItem_64 (q := 65) rfl ?_
        refine v_get hC fl_X6_176 (k := 47) (by decide) hp_47v rfl dX6_personItem_65 (q := 68) rfl ?_
        refine v_if_ne hC dX6_personItem_68 (t := 80) rfl (q := 71) rfl (fun h => absurd (by decide) h) (fun _ => ?_)
        refine v_aload_n hC rfl dX6_personItem_71 (q := 72) rfl ?_
        refine v_iload_n hC rfl dX6_personItem_72 (q := 73) rfl ?_
        refine v_iload_n hC rfl dX6_personItem_73 (q := 74) rfl ?_
        refine v_iload_n hC rfl dX6_personItem_74 (q := 75) rfl ?_
        refine v_Vi hC lkV_X6_68 (c_X6_comesAs hN (by omega)) rfl (by decide) (k := 47) (by decide) hp_47 rfl rfl (Nat.le_of_ble_eq_true rfl) dX6_personItem_75 (q := 78) rfl ?_
        rintro _ _ ⟨rfl, rfl⟩
        refine v_istore_4 hC rfl dX6_personItem_78 (q := 80) rfl ?_
        refine hR _ _ _ ?_ dX6_personItem_80
        exact Or.inl ⟨_, _, n + 1, hq60, by simp only [perI, if_neg h8b, hs45, hs60], newP_1 hN, by omega, rfl⟩
      · refine v_istore_3 hC rfl dX6_personItem_63 (q := 64) rfl ?_
        refine v_aload_n hC rfl dX6_personItem_64 (q := 65) rfl ?_
        refine v_get hC fl_X6_176 (k := 47) (by decide) hp_47v rfl dX6_personItem_65 (q := 68) rfl ?_
        refine v_if_ne hC dX6_personItem_68 (t := 80) rfl (q := 71) rfl (fun _ => ?_) (fun h => absurd h (by decide))
        refine hR _ _ _ ?_ dX6_personItem_80
        exact Or.inr ⟨_, _, hq60, by simp only [perI, if_neg h8b, hs45, hs60], rfl⟩
    · refine v_istore_2 hC rfl dX6_personItem_48 (q := 49) rfl ?_
      refine v_aload_n hC rfl dX6_personItem_49 (q := 50) rfl ?_
      refine v_bipush hC (v := 7) rfl dX6_personItem_50 (q := 52) rfl ?_
      refine v_iconst hC (v := 0) rfl dX6_personItem_52 (q := 53) rfl ?_
      refine v_aload_n hC rfl dX6_personItem_53 (q := 54) rfl ?_
      refine v_get hC fl_X6_9 (k := 47) (by decide) hp_47v rfl dX6_personItem_54 (q := 57) rfl ?_
      refine v_iconst hC (v := 1) rfl dX6_personItem_57 (q := 58) rfl ?_
      refine v_iald hC (k := 48) (by decide) hp_48 (vp_l (by decide)) (j := 1) rfl dX6_personItem_58 (q := 59) rfl ?_
      refine v_iconst hC (v := (-1)) rfl dX6_personItem_59 (q := 60) rfl ?_
      rw [hN]
      refine v_Vi hC lkV_X6_189 (c_X6_perhaps1 hT) rfl (by decide) (k := 47) (by decide) hp_47 rfl rfl (Nat.le_of_ble_eq_true rfl) dX6_personItem_60 (q := 63) rfl ?_
      rintro _ _ (⟨rfl, rfl⟩)
      · refine v_istore_3 hC rfl dX6_personItem_63 (q := 64) rfl ?_
        refine v_aload_n hC rfl dX6_personItem_64 (q := 65) rfl ?_
        refine v_get hC fl_X6_176 (k := 47) (by decide) hp_47v rfl dX6_personItem_65 (q := 68) rfl ?_
        refine v_if_ne hC dX6_personItem_68 (t := 80) rfl (q := 71) rfl (fun _ => ?_) (fun h => absurd h (by decide))
        refine hR _ _ _ ?_ dX6_personItem_80
        exact Or.inr ⟨_, _, hq45, by simp only [perI, if_neg h8b, hs45], rfl⟩
  · refine v_iconst hC (v := 1) rfl dX6_personItem_17 (q := 18) rfl ?_
    refine v_goto hC dX6_personItem_18 (t := 22) rfl ?_
    refine v_put hC fl_X6_176 pt_5_11 (k := 47) (by decide) hp_47v (Nat.le_of_ble_eq_true rfl) rfl rfl (hpv_6 _) dX6_personItem_22 (q := 25) rfl ?_
    refine v_aload_n hC rfl dX6_personItem_25 (q := 26) rfl ?_
    refine v_get hC fl_X6_176 (k := 47) (by decide) hp_47v rfl dX6_personItem_26 (q := 29) rfl ?_
    refine v_if_eq hC dX6_personItem_29 (t := 33) rfl (q := 32) rfl (fun h => absurd h (by decide)) (fun _ => ?_)
    refine hR _ _ _ ?_ dX6_personItem_32
    have e8 : n = 8 := (nI_eq (b := 8) (by omega) (by decide)).mp (hN.symm.trans h14)
    exact Or.inr ⟨_, _, hp1, by simp only [perI, if_pos e8], rfl⟩

set_option maxHeartbeats 4000000 in
set_option maxRecDepth 100000 in
theorem c_X6_grindItem {l : Launch} {X : Gx} {S : CS} {m : Nat → Int32} {r : Nat → Nat → Int32} {c : Nat → Int64} {a0 : Int32} {T : Nat} (hT : T ≤ 120) {p : Nat} (hp1 : p ≤ T) {n : Nat} (hN : m 1 = nI n) (h8 : n ≤ 8) : Cv l X yX6_grindItem cX6_grindItem 3 (none) (rmk 3 66) [.ref (ga X 47)] (hp X S (iv [a0, nI T, tkK (r 4) T (p), nI (tkS (r 4) T (p)), nI (tkE (r 4) T (p)), tkV (r 4) T (p), 0], m, r, c)) (fun g => (∃ m2 p2 n2, p2 ≤ T ∧ griI (r 4) T n m p = .inr (m2, p2) ∧ m2 1 = nI n2 ∧ n2 ≤ 8 ∧ g = hp X S (iv [a0, nI T, tkK (r 4) T (p2), nI (tkS (r 4) T (p2)), nI (tkE (r 4) T (p2)), tkV (r 4) T (p2), 0], m2, r, c)) ∨ (∃ q m2, q ≤ T ∧ griI (r 4) T n m p = .inl q ∧ g = hp X S (iv [a0, nI T, tkK (r 4) T (q), nI (tkS (r 4) T (q)), nI (tkE (r 4) T (q)), tkV (r 4) T (q), 1], m2, r, c))) := by
  refine ct_v (own := RX6) (lv := [some (.ref (ga X 47)), none, none]) (by decide) rfl (Nat.le_of_ble_eq_true rfl) (Nat.le_of_ble_eq_true rfl) rfl (fun C hC hR => ?_)
  have hE := (tkE_le (t := r 4) hp1).2
  refine v_aload_n hC rfl dX6_grindItem_0 (q := 1) rfl ?_
  refine v_get hC fl_X6_170 (k := 47) (by decide) hp_47v rfl dX6_grindItem_1 (q := 4) rfl ?_
  refine v_bipush hC (v := 20) rfl dX6_grindItem_4 (q := 6) rfl ?_
  refine v_icmp_ne hC dX6_grindItem_6 (t := 36) rfl (q := 9) rfl (fun h6 => ?_) (fun h6 => ?_)
  · refine v_iconst hC (v := 0) rfl dX6_grindItem_36 (q := 37) rfl ?_
    refine v_istore_1 hC rfl dX6_grindItem_37 (q := 38) rfl ?_
    refine v_aload_n hC rfl dX6_grindItem_38 (q := 39) rfl ?_
    refine v_iload_n hC rfl dX6_grindItem_39 (q := 40) rfl ?_
    refine v_if_ne hC dX6_grindItem_40 (t := 47) rfl (q := 43) rfl (fun h => absurd h (by decide)) (fun _ => ?_)
    refine v_iconst hC (v := 1) rfl dX6_grindItem_43 (q := 44) rfl ?_
    refine v_goto hC dX6_grindItem_44 (t := 48) rfl ?_
    refine v_put hC fl_X6_176 pt_5_11 (k := 47) (by decide) hp_47v (Nat.le_of_ble_eq_true rfl) rfl rfl (hpv_6 _) dX6_grindItem_48 (q := 51) rfl ?_
    refine v_iload_n hC rfl dX6_grindItem_51 (q := 52) rfl ?_
    refine v_if_eq hC dX6_grindItem_52 (t := 68) rfl (q := 55) rfl (fun _ => ?_) (fun h => absurd h (by decide))
    refine hR _ _ _ ?_ dX6_grindItem_68
    exact Or.inr ⟨_, _, hp1, by simp only [griI, if_neg h6], rfl⟩
  · refine v_aload_n hC rfl dX6_grindItem_9 (q := 10) rfl ?_
    refine v_aload_n hC rfl dX6_grindItem_10 (q := 11) rfl ?_
    refine v_get hC fl_X6_167 (k := 47) (by decide) hp_47v rfl dX6_grindItem_11 (q := 14) rfl ?_
    refine v_Vi hC lkV_X6_45 (c_X6_isPerson hN h8) rfl (by decide) (k := 47) (by decide) hp_47 rfl rfl (Nat.le_of_ble_eq_true rfl) dX6_grindItem_14 (q := 17) rfl ?_
    rintro _ _ ⟨⟨⟨P, hP, hv⟩, rfl⟩ | ⟨hc14, rfl⟩, rfl⟩
    · refine v_if_eq hC dX6_grindItem_17 (t := 36) rfl (q := 20) rfl (fun h => absurd h (by decide)) (fun _ => ?_)
      refine v_aload_n hC rfl dX6_grindItem_20 (q := 21) rfl ?_
      refine v_aload_n hC rfl dX6_grindItem_21 (q := 22) rfl ?_
      refine v_get hC fl_X6_167 (k := 47) (by decide) hp_47v rfl dX6_grindItem_22 (q := 25) rfl ?_
      rw [hv]
      refine v_iconst hC (v := 2) rfl dX6_grindItem_25 (q := 26) rfl ?_
      refine v_Vi hC lkV_X6_49 (c_X6_it (w := 2) (by omega) (by decide)) rfl (by decide) (k := 47) (by decide) hp_47 rfl rfl (Nat.le_of_ble_eq_true rfl) dX6_grindItem_26 (q := 29) rfl ?_
      rintro _ _ ⟨rfl, rfl⟩
      refine v_if_lt hC dX6_grindItem_29 (t := 36) rfl (q := 32) rfl (fun h29 => ?_) (fun h29 => ?_)
      · refine v_iconst hC (v := 0) rfl dX6_grindItem_36 (q := 37) rfl ?_
        refine v_istore_1 hC rfl dX6_grindItem_37 (q := 38) rfl ?_
        refine v_aload_n hC rfl dX6_grindItem_38 (q := 39) rfl ?_
        refine v_iload_n hC rfl dX6_grindItem_39 (q := 40) rfl ?_
        refine v_if_ne hC dX6_grindItem_40 (t := 47) rfl (q := 43) rfl (fun h => absurd h (by decide)) (fun _ => ?_)
        refine v_iconst hC (v := 1) rfl dX6_grindItem_43 (q := 44) rfl ?_
        refine v_goto hC dX6_grindItem_44 (t := 48) rfl ?_
        refine v_put hC fl_X6_176 pt_5_11 (k := 47) (by decide) hp_47v (Nat.le_of_ble_eq_true rfl) rfl rfl (hpv_6 _) dX6_grindItem_48 (q := 51) rfl ?_
        refine v_iload_n hC rfl dX6_grindItem_51 (q := 52) rfl ?_
        refine v_if_eq hC dX6_grindItem_52 (t := 68) rfl (q := 55) rfl (fun _ => ?_) (fun h => absurd h (by decide))
        refine hR _ _ _ ?_ dX6_grindItem_68
        exact Or.inr ⟨_, _, hp1, by simp only [griI, if_pos h6, hv, pIx_nI hP h8, if_pos h29], by rw [hv]⟩
      · refine v_iconst hC (v := 1) rfl dX6_grindItem_32 (q := 33) rfl ?_
        refine v_goto hC dX6_grindItem_33 (t := 37) rfl ?_
        refine v_istore_1 hC rfl dX6_grindItem_37 (q := 38) rfl ?_
        refine v_aload_n hC rfl dX6_grindItem_38 (q := 39) rfl ?_
        refine v_iload_n hC rfl dX6_grindItem_39 (q := 40) rfl ?_
        refine v_if_ne hC dX6_grindItem_40 (t := 47) rfl (q := 43) rfl (fun _ => ?_) (fun h => absurd h (by decide))
        refine v_iconst hC (v := 0) rfl dX6_grindItem_47 (q := 48) rfl ?_
        refine v_put hC fl_X6_176 pt_5_11 (k := 47) (by decide) hp_47v (Nat.le_of_ble_eq_true rfl) rfl rfl (hpv_6 _) dX6_grindItem_48 (q := 51) rfl ?_
        refine v_iload_n hC rfl dX6_grindItem_51 (q := 52) rfl ?_
        refine v_if_eq hC dX6_grindItem_52 (t := 68) rfl (q := 55) rfl (fun h => absurd h (by decide)) (fun _ => ?_)
        refine v_aload_n hC rfl dX6_grindItem_55 (q := 56) rfl ?_
        refine v_aload_n hC rfl dX6_grindItem_56 (q := 57) rfl ?_
        refine v_get hC fl_X6_167 (k := 47) (by decide) hp_47v rfl dX6_grindItem_57 (q := 60) rfl ?_
        refine v_Vi hC lkV_X6_89 (c_X6_isGround (by omega)) rfl (by decide) (k := 47) (by decide) hp_47 rfl rfl (Nat.le_of_ble_eq_true rfl) dX6_grindItem_60 (q := 63) rfl ?_
        rintro _ _ ⟨rfl, rfl⟩
        refine v_istore_2 hC rfl dX6_grindItem_63 (q := 64) rfl ?_
        refine v_aload_n hC rfl dX6_grindItem_64 (q := 65) rfl ?_
        refine v_Vv hC lkV_X6_180 (c_X6_reads hT (by first | assumption | omega)) rfl (by decide) (k := 47) (by decide) hp_47 rfl rfl (Nat.le_of_ble_eq_true rfl) dX6_grindItem_65 (q := 68) rfl ?_
        rintro _ rfl
        refine hR _ _ _ ?_ dX6_grindItem_68
        exact Or.inl ⟨_, _, n, hE, by simp only [griI, if_pos h6, hv, pIx_nI hP h8, if_neg h29], groundM_1.trans hN, h8, rfl⟩
    · refine v_if_eq hC dX6_grindItem_17 (t := 36) rfl (q := 20) rfl (fun _ => ?_) (fun h => absurd h (by decide))
      refine v_iconst hC (v := 0) rfl dX6_grindItem_36 (q := 37) rfl ?_
      refine v_istore_1 hC rfl dX6_grindItem_37 (q := 38) rfl ?_
      refine v_aload_n hC rfl dX6_grindItem_38 (q := 39) rfl ?_
      refine v_iload_n hC rfl dX6_grindItem_39 (q := 40) rfl ?_
      refine v_if_ne hC dX6_grindItem_40 (t := 47) rfl (q := 43) rfl (fun h => absurd h (by decide)) (fun _ => ?_)
      refine v_iconst hC (v := 1) rfl dX6_grindItem_43 (q := 44) rfl ?_
      refine v_goto hC dX6_grindItem_44 (t := 48) rfl ?_
      refine v_put hC fl_X6_176 pt_5_11 (k := 47) (by decide) hp_47v (Nat.le_of_ble_eq_true rfl) rfl rfl (hpv_6 _) dX6_grindItem_48 (q := 51) rfl ?_
      refine v_iload_n hC rfl dX6_grindItem_51 (q := 52) rfl ?_
      refine v_if_eq hC dX6_grindItem_52 (t := 68) rfl (q := 55) rfl (fun _ => ?_) (fun h => absurd h (by decide))
      refine hR _ _ _ ?_ dX6_grindItem_68
      exact Or.inr ⟨_, _, hp1, by simp only [griI, if_pos h6, pIx_no h8 hc14], rfl⟩
