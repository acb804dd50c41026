def fnF (fo : Nat → Int32) : An → Nat → Int32
  | .inl k => upd fo k (fo k + 1)
  | .inr _ => fo
theorem f_0 : ∀ n : Fin 7, ¬ (-1000000001 - fnd n.val) < 0 ∧ ¬ 7 ≤ (-1000000001 - fnd n.val) := by decide +kernel
set_option maxHeartbeats 4000000 in
set_option maxRecDepth 100000 in
theorem c_X5_finding {l : Launch} {X : Gx} {M : MS} {q nu : Nat → Nat → Int32} {vc : Nat → Nat → Nat → Int32} {sb : Nat → Nat → Int32} {tp by_ : Nat → Int32} {sh : Nat → Nat → Int32} {nn : Nat → Nat → Int64} {fo : Nat → Int32} {kp : Int32} {n : Nat} (hn : n < 7) : Ci l X yX5_finding cX5_finding 3 (some .int) (rmk 0 0) [.ref (ga X 0), .int (fnd n)] (ch X M q nu vc sb tp by_ sh nn fo kp) (fun z g => z = fnd n ∧ g = ch X M q nu vc sb tp by_ sh nn (upd fo n (fo n + 1)) kp) := by
  refine ct_i (own := RX5) (lv := [some (.ref (ga X 0)), some (.int (fnd n)), none]) (by decide) rfl (Nat.le_of_ble_eq_true rfl) (Nat.le_of_ble_eq_true rfl) rfl (fun C hC hR => ?_)
  refine v_ldc hC wk_X5_55 dX5_finding_0 (q := 2) rfl ?_
  refine v_iload_n hC rfl dX5_finding_2 (q := 3) rfl ?_
  refine v_isub hC dX5_finding_3 (q := 4) rfl ?_
  refine v_istore_2 hC rfl dX5_finding_4 (q := 5) rfl ?_
  refine v_iload_n hC rfl dX5_finding_5 (q := 6) rfl ?_
  refine v_if_lt hC dX5_finding_6 (t := 25) rfl (q := 9) rfl (fun h => absurd h (f_0 ⟨n, hn⟩).1) (fun _ => ?_)
  refine v_iload_n hC rfl dX5_finding_9 (q := 10) rfl ?_
  refine v_bipush hC (v := 7) rfl dX5_finding_10 (q := 12) rfl ?_
  refine v_icmp_ge hC dX5_finding_12 (t := 25) rfl (q := 15) rfl (fun h => absurd h (f_0 ⟨n, hn⟩).2) (fun _ => ?_)
  refine v_aload_n hC rfl dX5_finding_15 (q := 16) rfl ?_
  refine v_get hC fl_X5_42 (k := 0) (by decide) ch_0 rfl dX5_finding_16 (q := 19) rfl ?_
  refine v_iload_n hC rfl dX5_finding_19 (q := 20) rfl ?_
  refine v_dup2 hC rfl rfl dX5_finding_20 (q := 21) rfl ?_
  refine v_iald hC (k := 46) (by decide) ch_46 (f_i hn) (f_a hn) dX5_finding_21 (q := 22) rfl ?_
  refine v_iconst hC (v := 1) rfl dX5_finding_22 (q := 23) rfl ?_
  refine v_iadd hC dX5_finding_23 (q := 24) rfl ?_
  refine v_iast hC (k := 46) (by decide) ch_46 (f_i hn) (f_a hn) (ch_fo _) dX5_finding_24 (q := 25) rfl ?_
  refine v_iload_n hC rfl dX5_finding_25 (q := 26) rfl ?_
  refine hR _ _ _ _ ?_ dX5_finding_26
  exact ⟨rfl, rfl⟩

theorem th_iff {n : Nat} (h8 : n ≤ 8) {p : Int32} : (¬ p < 0 ∧ ¬ nI n ≤ p) ↔ ∃ P, P < n ∧ p = nI P := by
  constructor
  · rintro ⟨h1, h2⟩
    exact w_of (by omega) (Int32.not_lt.mp h1) (Int32.not_le.mp h2)
  · rintro ⟨P, hP, rfl⟩
    exact ⟨nI_pos (by omega), nI_ge hP (by omega)⟩
set_option maxHeartbeats 4000000 in
set_option maxRecDepth 100000 in
theorem c_X5_isThere {l : Launch} {X : Gx} {M : MS} {q nu : Nat → Nat → Int32} {vc : Nat → Nat → Nat → Int32} {sb : Nat → Nat → Int32} {tp by_ : Nat → Int32} {sh : Nat → Nat → Int32} {nn : Nat → Nat → Int64} {fo : Nat → Int32} {kp : Int32} {n : Nat} (hN : q 0 1 = nI n) (h8 : n ≤ 8) {p : Int32} : Ci l X yX5_isThere cX5_isThere 2 (some .boolean) (rmk 0 0) [.ref (ga X 0), .int p] (ch X M q nu vc sb tp by_ sh nn fo kp) (fun z g => ((∃ P, P < n ∧ p = nI P) ∧ z = 1 ∨ ¬ (∃ P, P < n ∧ p = nI P) ∧ z = 0) ∧ g = ch X M q nu vc sb tp by_ sh nn fo kp) := by
  refine ct_z (own := RX5) (lv := [some (.ref (ga X 0)), some (.int p)]) (by decide) rfl (Nat.le_of_ble_eq_true rfl) (Nat.le_of_ble_eq_true rfl) rfl (fun C hC hR => ?_)
  refine v_iload_n hC rfl dX5_isThere_0 (q := 1) rfl ?_
  refine v_if_lt hC dX5_isThere_1 (t := 19) rfl (q := 4) rfl (fun h1 => ?_) (fun h1 => ?_)
  · refine v_iconst hC (v := 0) rfl dX5_isThere_19 (q := 20) rfl ?_
    refine hR _ _ _ _ ?_ (by first | rfl | decide | assumption) dX5_isThere_20
    exact ⟨Or.inr ⟨fun z => ((th_iff h8).mpr z).1 h1, rfl⟩, rfl⟩
  · refine v_iload_n hC rfl dX5_isThere_4 (q := 5) rfl ?_
    refine v_aload_n hC rfl dX5_isThere_5 (q := 6) rfl ?_
    refine v_get hC fl_X5_12 (k := 0) (by decide) ch_0 rfl dX5_isThere_6 (q := 9) rfl ?_
    refine v_getN hC nl_X5_173 (k := 1 + 11 * 0) (by decide) (ch_q (b := 0) (by decide)) rfl dX5_isThere_9 (q := 12) rfl ?_
    refine v_icmp_ge hC dX5_isThere_12 (t := 19) rfl (q := 15) rfl (fun h12 => ?_) (fun h12 => ?_)
    · refine v_iconst hC (v := 0) rfl dX5_isThere_19 (q := 20) rfl ?_
      refine hR _ _ _ _ ?_ (by first | rfl | decide | assumption) dX5_isThere_20
      rw [hN] at h12
      exact ⟨Or.inr ⟨fun z => ((th_iff h8).mpr z).2 h12, rfl⟩, rfl⟩
    · refine v_iconst hC (v := 1) rfl dX5_isThere_15 (q := 16) rfl ?_
      refine v_goto hC dX5_isThere_16 (t := 20) rfl ?_
      refine hR _ _ _ _ ?_ (by first | rfl | decide | assumption) dX5_isThere_20
      rw [hN] at h12
      exact ⟨Or.inl ⟨(th_iff h8).mp ⟨h1, h12⟩, rfl⟩, rfl⟩

set_option maxHeartbeats 4000000 in
set_option maxRecDepth 100000 in
theorem c_X5_areTwo {l : Launch} {X : Gx} {M : MS} {q nu : Nat → Nat → Int32} {vc : Nat → Nat → Nat → Int32} {sb : Nat → Nat → Int32} {tp by_ : Nat → Int32} {sh : Nat → Nat → Int32} {nn : Nat → Nat → Int64} {fo : Nat → Int32} {kp : Int32} {n : Nat} (hN : q 0 1 = nI n) (h8 : n ≤ 8) {p q_ : Int32} : Ci l X yX5_areTwo cX5_areTwo 3 (some .boolean) (rmk 1 21) [.ref (ga X 0), .int p, .int q_] (ch X M q nu vc sb tp by_ sh nn fo kp) (fun z g => ((∃ P Q, P < n ∧ Q < n ∧ P ≠ Q ∧ p = nI P ∧ q_ = nI Q) ∧ z = 1 ∨ ¬ (∃ P Q, P < n ∧ Q < n ∧ P ≠ Q ∧ p = nI P ∧ q_ = nI Q) ∧ z = 0) ∧ g = ch X M q nu vc sb tp by_ sh nn fo kp) := by
  refine ct_z (own := RX5) (lv := [some (.ref (ga X 0)), some (.int p), some (.int q_)]) (by decide) rfl (Nat.le_of_ble_eq_true rfl) (Nat.le_of_ble_eq_true rfl) rfl (fun C hC hR => ?_)
  refine v_aload_n hC rfl dX5_areTwo_0 (q := 1) rfl ?_
  refine v_iload_n hC rfl dX5_areTwo_1 (q := 2) rfl ?_
  refine v_Vi hC lkV_X5_73 (c_X5_isThere hN h8) rfl (by decide) (k := 0) (by decide) ch_0 rfl rfl (Nat.le_of_ble_eq_true rfl) dX5_areTwo_2 (q := 5) rfl ?_
  rintro _ _ ⟨⟨⟨P, hP, rfl⟩, rfl⟩ | ⟨hc2, rfl⟩, rfl⟩
  · refine v_if_eq hC dX5_areTwo_5 (t := 25) rfl (q := 8) rfl (fun h => absurd h (by decide)) (fun _ => ?_)
    refine v_aload_n hC rfl dX5_areTwo_8 (q := 9) rfl ?_
    refine v_iload_n hC rfl dX5_areTwo_9 (q := 10) rfl ?_
    refine v_Vi hC lkV_X5_73 (c_X5_isThere hN h8) rfl (by decide) (k := 0) (by decide) ch_0 rfl rfl (Nat.le_of_ble_eq_true rfl) dX5_areTwo_10 (q := 13) rfl ?_
    rintro _ _ ⟨⟨⟨Q, hQ, rfl⟩, rfl⟩ | ⟨hc10, rfl⟩, rfl⟩
    · refine v_if_eq hC dX5_areTwo_13 (t := 25) rfl (q := 16) rfl (fun h => absurd h (by decide)) (fun _ => ?_)
      refine v_iload_n hC rfl dX5_areTwo_16 (q := 17) rfl ?_
      refine v_iload_n hC rfl dX5_areTwo_17 (q := 18) rfl ?_
      refine v_icmp_eq hC dX5_areTwo_18 (t := 25) rfl (q := 21) rfl (fun h18 => ?_) (fun h18 => ?_)
      · refine v_iconst hC (v := 0) rfl dX5_areTwo_25 (q := 26) rfl ?_
        refine hR _ _ _ _ ?_ (by first | rfl | decide | assumption) dX5_areTwo_26
        refine ⟨Or.inr ⟨?_, rfl⟩, rfl⟩
        rintro ⟨P1, Q1, a1, b1, c1, d1, e1⟩
        exact c1 ((nI_eq (by omega) (by omega)).mp (d1.symm.trans (h18.trans e1)))
      · refine v_iconst hC (v := 1) rfl dX5_areTwo_21 (q := 22) rfl ?_
        refine v_goto hC dX5_areTwo_22 (t := 26) rfl ?_
        refine hR _ _ _ _ ?_ (by first | rfl | decide | assumption) dX5_areTwo_26
        exact ⟨Or.inl ⟨⟨P, Q, hP, hQ, fun e => h18 (by rw [e]), rfl, rfl⟩, rfl⟩, rfl⟩
    · refine v_if_eq hC dX5_areTwo_13 (t := 25) rfl (q := 16) rfl (fun _ => ?_) (fun h => absurd h (by decide))
      refine v_iconst hC (v := 0) rfl dX5_areTwo_25 (q := 26) rfl ?_
      refine hR _ _ _ _ ?_ (by first | rfl | decide | assumption) dX5_areTwo_26
      exact ⟨Or.inr ⟨fun ⟨_, Q1, _, a1, _, _, e⟩ => hc10 ⟨Q1, a1, e⟩, rfl⟩, rfl⟩
  · refine v_if_eq hC dX5_areTwo_5 (t := 25) rfl (q := 8) rfl (fun _ => ?_) (fun h => absurd h (by decide))
    refine v_iconst hC (v := 0) rfl dX5_areTwo_25 (q := 26) rfl ?_
    refine hR _ _ _ _ ?_ (by first | rfl | decide | assumption) dX5_areTwo_26
    exact ⟨Or.inr ⟨fun ⟨P1, _, a1, _, _, e, _⟩ => hc2 ⟨P1, a1, e⟩, rfl⟩, rfl⟩

theorem nb_of {n : Nat} (h8 : n ≤ 8) {v : Int32} (h : -1 ≤ v ∧ v ≤ nI n - 1) : v = -1 ∨ ∃ P, P < n ∧ v = nI P := by
  by_cases e : v = -1
  · exact Or.inl e
  · refine Or.inr ((isP_iff h8).mp ⟨?_, h.2⟩)
    have h1 := h.1
    rw [fa_le] at h1 ⊢
    have h2 : (-1 : Int) ≤ v.toInt := h1
    have h3 : ¬ v.toInt = -1 := fun z => e (Int32.toInt_inj.mp z)
    show (0 : Int) ≤ v.toInt
    omega
theorem nb_iff {n : Nat} (h8 : n ≤ 8) {v : Int32} (h : v = -1 ∨ ∃ P, P < n ∧ v = nI P) : -1 ≤ v ∧ v ≤ nI n - 1 := by
  rcases h with rfl | ⟨P, hP, rfl⟩
  · refine ⟨by decide, ?_⟩
    rw [fa_le, n8 ⟨n, by omega⟩]
    show (-1 : Int) ≤ (n : Int) - 1
    omega
  · have := (isP_iff h8).mpr ⟨P, hP, rfl⟩
    exact ⟨Int32.le_trans (by decide) this.1, this.2⟩
set_option maxHeartbeats 4000000 in
set_option maxRecDepth 100000 in
theorem c_X5_maySet {l : Launch} {X : Gx} {M : MS} {q nu : Nat → Nat → Int32} {vc : Nat → Nat → Nat → Int32} {sb : Nat → Nat → Int32} {tp by_ : Nat → Int32} {sh : Nat → Nat → Int32} {nn : Nat → Nat → Int64} {fo : Nat → Int32} {kp : Int32} {n : Nat} (hN : q 0 1 = nI n) (h8 : n ≤ 8) {w v : Int32} : Ci l X yX5_maySet cX5_maySet 3 (some .boolean) (rmk 1 21) [.ref (ga X 0), .int w, .int v] (ch X M q nu vc sb tp by_ sh nn fo kp) (fun z g => (((1 ≤ w ∧ w ≤ 6) ∧ (if w = 2 ∨ w = 4 then -1 ≤ v ∧ v ≤ nI n - 1 else if w = 3 then 0 ≤ v ∧ v ≤ 1 else 0 ≤ v ∧ v ≤ 99)) ∧ z = 1 ∨ ¬ ((1 ≤ w ∧ w ≤ 6) ∧ (if w = 2 ∨ w = 4 then -1 ≤ v ∧ v ≤ nI n - 1 else if w = 3 then 0 ≤ v ∧ v ≤ 1 else 0 ≤ v ∧ v ≤ 99)) ∧ z = 0) ∧ g = ch X M q nu vc sb tp by_ sh nn fo kp) := by
  refine ct_z (own := RX5) (lv := [some (.ref (ga X 0)), some (.int w), some (.int v)]) (by decide) rfl (Nat.le_of_ble_eq_true rfl) (Nat.le_of_ble_eq_true rfl) rfl (fun C hC hR => ?_)
  refine v_iload_n hC rfl dX5_maySet_0 (q := 1) rfl ?_
  refine v_em 1 (fun hs1_0 => ?_) (fun hs1_0 => ?_)
  · refine v_tin hC dX5_maySet_1 (by decide) (by decide) rfl (t := 40) rfl ?_
    refine v_iload_n hC rfl dX5_maySet_40 (q := 41) rfl ?_
    refine v_bipush hC (v := 99) rfl dX5_maySet_41 (q := 43) rfl ?_
    refine v_Si hC lkS_X5_121 c_X5_isUpTo rfl (by decide) rfl (Nat.le_of_ble_eq_true rfl) dX5_maySet_43 (q := 46) rfl ?_
    rintro _ _ ⟨⟨hc43, rfl⟩ | ⟨hc43, rfl⟩, rfl⟩
    · refine hR _ _ _ _ ?_ (by first | rfl | decide | assumption) dX5_maySet_46
      refine ⟨Or.inl ⟨?_, rfl⟩, rfl⟩
      subst hs1_0
      have hif : (if (1 : Int32) = 2 ∨ (1 : Int32) = 4 then -1 ≤ v ∧ v ≤ nI n - 1 else if (1 : Int32) = 3 then 0 ≤ v ∧ v ≤ 1 else 0 ≤ v ∧ v ≤ 99) = (0 ≤ v ∧ v ≤ 99) := by
        rw [if_neg (by decide)]
        exact if_neg (by decide)
      rw [hif]
      exact ⟨by decide, hc43⟩
    · refine hR _ _ _ _ ?_ (by first | rfl | decide | assumption) dX5_maySet_46
      refine ⟨Or.inr ⟨?_, rfl⟩, rfl⟩
      subst hs1_0
      have hif : (if (1 : Int32) = 2 ∨ (1 : Int32) = 4 then -1 ≤ v ∧ v ≤ nI n - 1 else if (1 : Int32) = 3 then 0 ≤ v ∧ v ≤ 1 else 0 ≤ v ∧ v ≤ 99) = (0 ≤ v ∧ v ≤ 99) := by
        rw [if_neg (by decide)]
        exact if_neg (by decide)
      rw [hif]
      exact fun z => hc43 z.2
  refine v_em 2 (fun hs1_1 => ?_) (fun hs1_1 => ?_)
  · refine v_tin hC dX5_maySet_1 (by decide) (by decide) rfl (t := 47) rfl ?_
    refine v_iload_n hC rfl dX5_maySet_47 (q := 48) rfl ?_
    refine v_iconst hC (v := (-1)) rfl dX5_maySet_48 (q := 49) rfl ?_
    refine v_icmp_eq hC dX5_maySet_49 (t := 60) rfl (q := 52) rfl (fun h49 => ?_) (fun h49 => ?_)
    · refine v_iconst hC (v := 1) rfl dX5_maySet_60 (q := 61) rfl ?_
      refine v_goto hC dX5_maySet_61 (t := 65) rfl ?_
      refine hR _ _ _ _ ?_ (by first | rfl | decide | assumption) dX5_maySet_65
      refine ⟨Or.inl ⟨?_, rfl⟩, rfl⟩
      subst hs1_1
      have hif : (if (2 : Int32) = 2 ∨ (2 : Int32) = 4 then -1 ≤ v ∧ v ≤ nI n - 1 else if (2 : Int32) = 3 then 0 ≤ v ∧ v ≤ 1 else 0 ≤ v ∧ v ≤ 99) = (-1 ≤ v ∧ v ≤ nI n - 1) := if_pos (by decide)
      rw [hif]
      exact ⟨by decide, by rw [h49]; exact nb_iff h8 (Or.inl rfl)⟩
    · refine v_aload_n hC rfl dX5_maySet_52 (q := 53) rfl ?_
      refine v_iload_n hC rfl dX5_maySet_53 (q := 54) rfl ?_
      refine v_Vi hC lkV_X5_73 (c_X5_isThere hN h8) rfl (by decide) (k := 0) (by decide) ch_0 rfl rfl (Nat.le_of_ble_eq_true rfl) dX5_maySet_54 (q := 57) rfl ?_
      rintro _ _ ⟨⟨⟨P54, hP54, hv54⟩, rfl⟩ | ⟨hc54, rfl⟩, rfl⟩
      · refine v_if_eq hC dX5_maySet_57 (t := 64) rfl (q := 60) rfl (fun h => absurd h (by decide)) (fun _ => ?_)
        refine v_iconst hC (v := 1) rfl dX5_maySet_60 (q := 61) rfl ?_
        refine v_goto hC dX5_maySet_61 (t := 65) rfl ?_
        refine hR _ _ _ _ ?_ (by first | rfl | decide | assumption) dX5_maySet_65
        refine ⟨Or.inl ⟨?_, rfl⟩, rfl⟩
        subst hs1_1
        have hif : (if (2 : Int32) = 2 ∨ (2 : Int32) = 4 then -1 ≤ v ∧ v ≤ nI n - 1 else if (2 : Int32) = 3 then 0 ≤ v ∧ v ≤ 1 else 0 ≤ v ∧ v ≤ 99) = (-1 ≤ v ∧ v ≤ nI n - 1) := if_pos (by decide)
        rw [hif]
        exact ⟨by decide, nb_iff h8 (Or.inr ⟨P54, hP54, hv54⟩)⟩
      · refine v_if_eq hC dX5_maySet_57 (t := 64) rfl (q := 60) rfl (fun _ => ?_) (fun h => absurd h (by decide))
        refine v_iconst hC (v := 0) rfl dX5_maySet_64 (q := 65) rfl ?_
        refine hR _ _ _ _ ?_ (by first | rfl | decide | assumption) dX5_maySet_65
        refine ⟨Or.inr ⟨?_, rfl⟩, rfl⟩
        subst hs1_1
        have hif : (if (2 : Int32) = 2 ∨ (2 : Int32) = 4 then -1 ≤ v ∧ v ≤ nI n - 1 else if (2 : Int32) = 3 then 0 ≤ v ∧ v ≤ 1 else 0 ≤ v ∧ v ≤ 99) = (-1 ≤ v ∧ v ≤ nI n - 1) := if_pos (by decide)
        rw [hif]
        exact fun z => (nb_of h8 z.2).elim h49 hc54
  refine v_em 3 (fun hs1_2 => ?_) (fun hs1_2 => ?_)
  · refine v_tin hC dX5_maySet_1 (by decide) (by decide) rfl (t := 66) rfl ?_
    refine v_iload_n hC rfl dX5_maySet_66 (q := 67) rfl ?_
    refine v_iconst hC (v := 1) rfl dX5_maySet_67 (q := 68) rfl ?_
    refine v_Si hC lkS_X5_121 c_X5_isUpTo rfl (by decide) rfl (Nat.le_of_ble_eq_true rfl) dX5_maySet_68 (q := 71) rfl ?_
    rintro _ _ ⟨⟨hc68, rfl⟩ | ⟨hc68, rfl⟩, rfl⟩
    · refine hR _ _ _ _ ?_ (by first | rfl | decide | assumption) dX5_maySet_71
      refine ⟨Or.inl ⟨?_, rfl⟩, rfl⟩
      subst hs1_2
      have hif : (if (3 : Int32) = 2 ∨ (3 : Int32) = 4 then -1 ≤ v ∧ v ≤ nI n - 1 else if (3 : Int32) = 3 then 0 ≤ v ∧ v ≤ 1 else 0 ≤ v ∧ v ≤ 99) = (0 ≤ v ∧ v ≤ 1) := by
        rw [if_neg (by decide)]
        exact if_pos (by decide)
      rw [hif]
      exact ⟨by decide, hc68⟩
    · refine hR _ _ _ _ ?_ (by first | rfl | decide | assumption) dX5_maySet_71
      refine ⟨Or.inr ⟨?_, rfl⟩, rfl⟩
      subst hs1_2
      have hif : (if (3 : Int32) = 2 ∨ (3 : Int32) = 4 then -1 ≤ v ∧ v ≤ nI n - 1 else if (3 : Int32) = 3 then 0 ≤ v ∧ v ≤ 1 else 0 ≤ v ∧ v ≤ 99) = (0 ≤ v ∧ v ≤ 1) := by
        rw [if_neg (by decide)]
        exact if_pos (by decide)
      rw [hif]
      exact fun z => hc68 z.2
  refine v_em 4 (fun hs1_3 => ?_) (fun hs1_3 => ?_)
  · refine v_tin hC dX5_maySet_1 (by decide) (by decide) rfl (t := 47) rfl ?_
    refine v_iload_n hC rfl dX5_maySet_47 (q := 48) rfl ?_
    refine v_iconst hC (v := (-1)) rfl dX5_maySet_48 (q := 49) rfl ?_
    refine v_icmp_eq hC dX5_maySet_49 (t := 60) rfl (q := 52) rfl (fun h49 => ?_) (fun h49 => ?_)
    · refine v_iconst hC (v := 1) rfl dX5_maySet_60 (q := 61) rfl ?_
      refine v_goto hC dX5_maySet_61 (t := 65) rfl ?_
      refine hR _ _ _ _ ?_ (by first | rfl | decide | assumption) dX5_maySet_65
      refine ⟨Or.inl ⟨?_, rfl⟩, rfl⟩
      subst hs1_3
      have hif : (if (4 : Int32) = 2 ∨ (4 : Int32) = 4 then -1 ≤ v ∧ v ≤ nI n - 1 else if (4 : Int32) = 3 then 0 ≤ v ∧ v ≤ 1 else 0 ≤ v ∧ v ≤ 99) = (-1 ≤ v ∧ v ≤ nI n - 1) := if_pos (by decide)
      rw [hif]
      exact ⟨by decide, by rw [h49]; exact nb_iff h8 (Or.inl rfl)⟩
    · refine v_aload_n hC rfl dX5_maySet_52 (q := 53) rfl ?_
      refine v_iload_n hC rfl dX5_maySet_53 (q := 54) rfl ?_
      refine v_Vi hC lkV_X5_73 (c_X5_isThere hN h8) rfl (by decide) (k := 0) (by decide) ch_0 rfl rfl (Nat.le_of_ble_eq_true rfl) dX5_maySet_54 (q := 57) rfl ?_
      rintro _ _ ⟨⟨⟨P54, hP54, hv54⟩, rfl⟩ | ⟨hc54, rfl⟩, rfl⟩
      · refine v_if_eq hC dX5_maySet_57 (t := 64) rfl (q := 60) rfl (fun h => absurd h (by decide)) (fun _ => ?_)
        refine v_iconst hC (v := 1) rfl dX5_maySet_60 (q := 61) rfl ?_
        refine v_goto hC dX5_maySet_61 (t := 65) rfl ?_
        refine hR _ _ _ _ ?_ (by first | rfl | decide | assumption) dX5_maySet_65
        refine ⟨Or.inl ⟨?_, rfl⟩, rfl⟩
        subst hs1_3
        have hif : (if (4 : Int32) = 2 ∨ (4 : Int32) = 4 then -1 ≤ v ∧ v ≤ nI n - 1 else if (4 : Int32) = 3 then 0 ≤ v ∧ v ≤ 1 else 0 ≤ v ∧ v ≤ 99) = (-1 ≤ v ∧ v ≤ nI n - 1) := if_pos (by decide)
        rw [hif]
        exact ⟨by decide, nb_iff h8 (Or.inr ⟨P54, hP54, hv54⟩)⟩
      · refine v_if_eq hC dX5_maySet_57 (t := 64) rfl (q := 60) rfl (fun _ => ?_) (fun h => absurd h (by decide))
        refine v_iconst hC (v := 0) rfl dX5_maySet_64 (q := 65) rfl ?_
        refine hR _ _ _ _ ?_ (by first | rfl | decide | assumption) dX5_maySet_65
        refine ⟨Or.inr ⟨?_, rfl⟩, rfl⟩
        subst hs1_3
        have hif : (if (4 : Int32) = 2 ∨ (4 : Int32) = 4 then -1 ≤ v ∧ v ≤ nI n - 1 else if (4 : Int32) = 3 then 0 ≤ v ∧ v ≤ 1 else 0 ≤ v ∧ v ≤ 99) = (-1 ≤ v ∧ v ≤ nI n - 1) := if_pos (by decide)
        rw [hif]
        exact fun z => (nb_of h8 z.2).elim h49 hc54
  refine v_em 5 (fun hs1_4 => ?_) (fun hs1_4 => ?_)
  · refine v_tin hC dX5_maySet_1 (by decide) (by decide) rfl (t := 40) rfl ?_
    refine v_iload_n hC rfl dX5_maySet_40 (q := 41) rfl ?_
    refine v_bipush hC (v := 99) rfl dX5_maySet_41 (q := 43) rfl ?_
    refine v_Si hC lkS_X5_121 c_X5_isUpTo rfl (by decide) rfl (Nat.le_of_ble_eq_true rfl) dX5_maySet_43 (q := 46) rfl ?_
    rintro _ _ ⟨⟨hc43, rfl⟩ | ⟨hc43, rfl⟩, rfl⟩
    · refine hR _ _ _ _ ?_ (by first | rfl | decide | assumption) dX5_maySet_46
      refine ⟨Or.inl ⟨?_, rfl⟩, rfl⟩
      subst hs1_4
      have hif : (if (5 : Int32) = 2 ∨ (5 : Int32) = 4 then -1 ≤ v ∧ v ≤ nI n - 1 else if (5 : Int32) = 3 then 0 ≤ v ∧ v ≤ 1 else 0 ≤ v ∧ v ≤ 99) = (0 ≤ v ∧ v ≤ 99) := by
        rw [if_neg (by decide)]
        exact if_neg (by decide)
      rw [hif]
      exact ⟨by decide, hc43⟩
    · refine hR _ _ _ _ ?_ (by first | rfl | decide | assumption) dX5_maySet_46
      refine ⟨Or.inr ⟨?_, rfl⟩, rfl⟩
      subst hs1_4
      have hif : (if (5 : Int32) = 2 ∨ (5 : Int32) = 4 then -1 ≤ v ∧ v ≤ nI n - 1 else if (5 : Int32) = 3 then 0 ≤ v ∧ v ≤ 1 else 0 ≤ v ∧ v ≤ 99) = (0 ≤ v ∧ v ≤ 99) := by
        rw [if_neg (by decide)]
        exact if_neg (by decide)
      rw [hif]
      exact fun z => hc43 z.2
  refine v_em 6 (fun hs1_5 => ?_) (fun hs1_5 => ?_)
  · refine v_tin hC dX5_maySet_1 (by decide) (by decide) rfl (t := 40) rfl ?_
    refine v_iload_n hC rfl dX5_maySet_40 (q := 41) rfl ?_
    refine v_bipush hC (v := 99) rfl dX5_maySet_41 (q := 43) rfl ?_
    refine v_Si hC lkS_X5_121 c_X5_isUpTo rfl (by decide) rfl (Nat.le_of_ble_eq_true rfl) dX5_maySet_43 (q := 46) rfl ?_
    rintro _ _ ⟨⟨hc43, rfl⟩ | ⟨hc43, rfl⟩, rfl⟩
    · refine hR _ _ _ _ ?_ (by first | rfl | decide | assumption) dX5_maySet_46
      refine ⟨Or.inl ⟨?_, rfl⟩, rfl⟩
      subst hs1_5
      have hif : (if (6 : Int32) = 2 ∨ (6 : Int32) = 4 then -1 ≤ v ∧ v ≤ nI n - 1 else if (6 : Int32) = 3 then 0 ≤ v ∧ v ≤ 1 else 0 ≤ v ∧ v ≤ 99) = (0 ≤ v ∧ v ≤ 99) := by
        rw [if_neg (by decide)]
        exact if_neg (by decide)
      rw [hif]
      exact ⟨by decide, hc43⟩
    · refine hR _ _ _ _ ?_ (by first | rfl | decide | assumption) dX5_maySet_46
      refine ⟨Or.inr ⟨?_, rfl⟩, rfl⟩
      subst hs1_5
      have hif : (if (6 : Int32) = 2 ∨ (6 : Int32) = 4 then -1 ≤ v ∧ v ≤ nI n - 1 else if (6 : Int32) = 3 then 0 ≤ v ∧ v ≤ 1 else 0 ≤ v ∧ v ≤ 99) = (0 ≤ v ∧ v ≤ 99) := by
        rw [if_neg (by decide)]
        exact if_neg (by decide)
      rw [hif]
      exact fun z => hc43 z.2
  refine v_tout hC dX5_maySet_1 (sw_out_1_6 hs1_0 hs1_1 hs1_2 hs1_3 hs1_4 hs1_5) (t := 72) rfl ?_
  refine v_iconst hC (v := 0) rfl dX5_maySet_72 (q := 73) rfl ?_
  refine hR _ _ _ _ ?_ (by first | rfl | decide | assumption) dX5_maySet_73
  refine ⟨Or.inr ⟨?_, rfl⟩, rfl⟩
  rintro ⟨⟨z1, z2⟩, -⟩
  obtain ⟨W, w1, w6, rfl⟩ := w_of' (a := 1) (N := 6) (by decide) (by decide) z1 z2
  rcases (show W = 1 ∨ W = 2 ∨ W = 3 ∨ W = 4 ∨ W = 5 ∨ W = 6 by omega) with rfl | rfl | rfl | rfl | rfl | rfl
  · exact hs1_0 rfl
  · exact hs1_1 rfl
  · exact hs1_2 rfl
  · exact hs1_3 rfl
  · exact hs1_4 rfl
  · exact hs1_5 rfl
