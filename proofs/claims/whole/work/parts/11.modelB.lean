set_option maxHeartbeats 4000000 in
set_option maxRecDepth 100000 in
theorem c_X6_becomes {l : Launch} {X : Gx} {S : CS} {i m : Nat → Int32} {r : Nat → Nat → Int32} {c : Nat → Int64} {p w : Nat} {v : Int32} (h1 : p < 8) (h2 : w < 7) : Ci l X yX6_becomes cX6_becomes 4 (some .int) (rmk 0 0) [.ref (ga X 47), .int (2 + 7 * nI p + nI w), .int v] (hp X S (i, m, r, c)) (fun z g => z = pv m p w ∧ g = hp X S (i, pu m p w v, r, c)) := by
  refine ct_i (own := RX6) (lv := [some (.ref (ga X 47)), some (.int (2 + 7 * nI p + nI w)), some (.int v), none]) (by decide) rfl (Nat.le_of_ble_eq_true rfl) (Nat.le_of_ble_eq_true rfl) rfl (fun C hC hR => ?_)
  refine v_aload_n hC rfl dX6_becomes_0 (q := 1) rfl ?_
  refine v_get hC fl_X6_9 (k := 47) (by decide) hp_47 rfl dX6_becomes_1 (q := 4) rfl ?_
  refine v_iload_n hC rfl dX6_becomes_4 (q := 5) rfl ?_
  refine v_iald hC (k := 48) (by decide) hp_48 (ix_in h1 h2) (ix_at h1 h2) dX6_becomes_5 (q := 6) rfl ?_
  refine v_istore_3 hC rfl dX6_becomes_6 (q := 7) rfl ?_
  refine v_aload_n hC rfl dX6_becomes_7 (q := 8) rfl ?_
  refine v_get hC fl_X6_9 (k := 47) (by decide) hp_47 rfl dX6_becomes_8 (q := 11) rfl ?_
  refine v_iload_n hC rfl dX6_becomes_11 (q := 12) rfl ?_
  refine v_iload_n hC rfl dX6_becomes_12 (q := 13) rfl ?_
  refine v_iast hC (k := 48) (by decide) hp_48 (ix_in h1 h2) (ix_at h1 h2) (hpr_0 _) dX6_becomes_13 (q := 14) rfl ?_
  refine v_iload_n hC rfl dX6_becomes_14 (q := 15) rfl ?_
  refine hR _ _ _ _ ?_ dX6_becomes_15
  exact ⟨(pv_lt h2).symm, rfl⟩

set_option maxHeartbeats 4000000 in
set_option maxRecDepth 100000 in
theorem c_X6_areTwo {l : Launch} {X : Gx} {S : CS} {i m : Nat → Int32} {r : Nat → Nat → Int32} {c : Nat → Int64} {n : Nat} (hN : m 1 = nI n) (h8 : n ≤ 8) {p q : Int32} : Ci l X yX6_areTwo cX6_areTwo 3 (some .boolean) (rmk 2 44) [.ref (ga X 47), .int p, .int q] (hp X S (i, m, r, c)) (fun z g => ((∃ P Q, P < n ∧ Q < n ∧ P ≠ Q ∧ p = nI P ∧ q = nI Q) ∧ z = 1 ∨ ¬ (∃ P Q, P < n ∧ Q < n ∧ P ≠ Q ∧ p = nI P ∧ q = nI Q) ∧ z = 0) ∧ g = hp X S (i, m, r, c)) := by
  refine ct_z (own := RX6) (lv := [some (.ref (ga X 47)), some (.int p), some (.int q)]) (by decide) rfl (Nat.le_of_ble_eq_true rfl) (Nat.le_of_ble_eq_true rfl) rfl (fun C hC hR => ?_)
  refine v_aload_n hC rfl dX6_areTwo_0 (q := 1) rfl ?_
  refine v_iload_n hC rfl dX6_areTwo_1 (q := 2) rfl ?_
  refine v_Vi hC lkV_X6_45 (c_X6_isPerson hN h8) rfl (by decide) (k := 47) (by decide) hp_47 rfl rfl (Nat.le_of_ble_eq_true rfl) dX6_areTwo_2 (q := 5) rfl ?_
  rintro _ _ ⟨⟨⟨P, hP, rfl⟩, rfl⟩ | ⟨hc2, rfl⟩, rfl⟩
  · refine v_if_eq hC dX6_areTwo_5 (t := 25) rfl (q := 8) rfl (fun h => absurd h (by decide)) (fun _ => ?_)
    refine v_aload_n hC rfl dX6_areTwo_8 (q := 9) rfl ?_
    refine v_iload_n hC rfl dX6_areTwo_9 (q := 10) rfl ?_
    refine v_Vi hC lkV_X6_45 (c_X6_isPerson hN h8) rfl (by decide) (k := 47) (by decide) hp_47 rfl rfl (Nat.le_of_ble_eq_true rfl) dX6_areTwo_10 (q := 13) rfl ?_
    rintro _ _ ⟨⟨⟨Q, hQ, rfl⟩, rfl⟩ | ⟨hc10, rfl⟩, rfl⟩
    · refine v_if_eq hC dX6_areTwo_13 (t := 25) rfl (q := 16) rfl (fun h => absurd h (by decide)) (fun _ => ?_)
      refine v_iload_n hC rfl dX6_areTwo_16 (q := 17) rfl ?_
      refine v_iload_n hC rfl dX6_areTwo_17 (q := 18) rfl ?_
      refine v_icmp_eq hC dX6_areTwo_18 (t := 25) rfl (q := 21) rfl (fun h18 => ?_) (fun h18 => ?_)
      · refine v_iconst hC (v := 0) rfl dX6_areTwo_25 (q := 26) rfl ?_
        refine hR _ _ _ _ ?_ (by first | rfl | decide | assumption) dX6_areTwo_26
        refine ⟨Or.inr ⟨?_, rfl⟩, rfl⟩
        first
          | exact fun ⟨P1, _, a, _, _, e, _⟩ => hc2 ⟨P1, a, e⟩
          | exact fun ⟨_, Q1, _, a, _, _, e⟩ => hc10 ⟨Q1, a, e⟩
          | (rintro ⟨P1, Q1, a, b, c, d, e⟩; exact c ((nI_eq (by omega) (by omega)).mp (d.symm.trans (h18.trans e))))
      · refine v_iconst hC (v := 1) rfl dX6_areTwo_21 (q := 22) rfl ?_
        refine v_goto hC dX6_areTwo_22 (t := 26) rfl ?_
        refine hR _ _ _ _ ?_ (by first | rfl | decide | assumption) dX6_areTwo_26
        exact ⟨Or.inl ⟨⟨P, Q, hP, hQ, fun e => h18 (by rw [e]), rfl, rfl⟩, rfl⟩, rfl⟩
    · refine v_if_eq hC dX6_areTwo_13 (t := 25) rfl (q := 16) rfl (fun _ => ?_) (fun h => absurd h (by decide))
      refine v_iconst hC (v := 0) rfl dX6_areTwo_25 (q := 26) rfl ?_
      refine hR _ _ _ _ ?_ (by first | rfl | decide | assumption) dX6_areTwo_26
      refine ⟨Or.inr ⟨?_, rfl⟩, rfl⟩
      first
        | exact fun ⟨P1, _, a, _, _, e, _⟩ => hc2 ⟨P1, a, e⟩
        | exact fun ⟨_, Q1, _, a, _, _, e⟩ => hc10 ⟨Q1, a, e⟩
        | (rintro ⟨P1, Q1, a, b, c, d, e⟩; exact c ((nI_eq (by omega) (by omega)).mp (d.symm.trans (h18.trans e))))
  · refine v_if_eq hC dX6_areTwo_5 (t := 25) rfl (q := 8) rfl (fun _ => ?_) (fun h => absurd h (by decide))
    refine v_iconst hC (v := 0) rfl dX6_areTwo_25 (q := 26) rfl ?_
    refine hR _ _ _ _ ?_ (by first | rfl | decide | assumption) dX6_areTwo_26
    refine ⟨Or.inr ⟨?_, rfl⟩, rfl⟩
    first
      | exact fun ⟨P1, _, a, _, _, e, _⟩ => hc2 ⟨P1, a, e⟩
      | exact fun ⟨_, Q1, _, a, _, _, e⟩ => hc10 ⟨Q1, a, e⟩
      | (rintro ⟨P1, Q1, a, b, c, d, e⟩; exact c ((nI_eq (by omega) (by omega)).mp (d.symm.trans (h18.trans e))))

set_option maxHeartbeats 4000000 in
set_option maxRecDepth 100000 in
theorem c_X6_lends {l : Launch} {X : Gx} {S : CS} {i m : Nat → Int32} {r : Nat → Nat → Int32} {c : Nat → Int64} {p q : Nat} (h1 : p < 8) (h2 : q < 8) : Cv l X yX6_lends cX6_lends 5 (none) (rmk 1 23) [.ref (ga X 47), .int (nI p), .int (nI q)] (hp X S (i, m, r, c)) (fun g => g = hp X S (i, swapM (swapM (swapM m p q 4) p q 5) p q 6, r, c)) := by
  refine ct_v (own := RX6) (lv := [some (.ref (ga X 47)), some (.int (nI p)), some (.int (nI q)), none, none]) (by decide) rfl (Nat.le_of_ble_eq_true rfl) (Nat.le_of_ble_eq_true rfl) rfl (fun C hC hR => ?_)
  refine v_iconst hC (v := 4) rfl dX6_lends_0 (q := 1) rfl ?_
  refine v_istore_3 hC rfl dX6_lends_1 (q := 2) rfl ?_
  refine v_iload_n hC rfl dX6_lends_2 (q := 3) rfl ?_
  refine v_bipush hC (v := 6) rfl dX6_lends_3 (q := 5) rfl ?_
  refine v_icmp_gt hC dX6_lends_5 (t := 42) rfl (q := 8) rfl (fun h => absurd h (by decide)) (fun _ => ?_)
  refine v_aload_n hC rfl dX6_lends_8 (q := 9) rfl ?_
  refine v_iload_n hC rfl dX6_lends_9 (q := 10) rfl ?_
  refine v_iload_n hC rfl dX6_lends_10 (q := 11) rfl ?_
  refine v_Vi hC lkV_X6_49 (c_X6_it (w := 4) (by omega) (by decide)) rfl (by decide) (k := 47) (by decide) hp_47 rfl rfl (Nat.le_of_ble_eq_true rfl) dX6_lends_11 (q := 14) rfl ?_
  rintro _ _ ⟨rfl, rfl⟩
  refine v_istore_4 hC rfl dX6_lends_14 (q := 16) rfl ?_
  refine v_aload_n hC rfl dX6_lends_16 (q := 17) rfl ?_
  refine v_iload_n hC rfl dX6_lends_17 (q := 18) rfl ?_
  refine v_iload_n hC rfl dX6_lends_18 (q := 19) rfl ?_
  refine v_aload_n hC rfl dX6_lends_19 (q := 20) rfl ?_
  refine v_iload_n hC rfl dX6_lends_20 (q := 21) rfl ?_
  refine v_iload_n hC rfl dX6_lends_21 (q := 22) rfl ?_
  refine v_Vi hC lkV_X6_49 (c_X6_it (w := 4) (by omega) (by decide)) rfl (by decide) (k := 47) (by decide) hp_47 rfl rfl (Nat.le_of_ble_eq_true rfl) dX6_lends_22 (q := 25) rfl ?_
  rintro _ _ ⟨rfl, rfl⟩
  refine v_Vv hC lkV_X6_63 (c_X6_put (w := 4) (by omega) (by decide)) rfl (by decide) (k := 47) (by decide) hp_47 rfl rfl (Nat.le_of_ble_eq_true rfl) dX6_lends_25 (q := 28) rfl ?_
  rintro _ rfl
  refine v_aload_n hC rfl dX6_lends_28 (q := 29) rfl ?_
  refine v_iload_n hC rfl dX6_lends_29 (q := 30) rfl ?_
  refine v_iload_n hC rfl dX6_lends_30 (q := 31) rfl ?_
  refine v_iload hC rfl dX6_lends_31 (q := 33) rfl ?_
  refine v_Vv hC lkV_X6_63 (c_X6_put (w := 4) (by omega) (by decide)) rfl (by decide) (k := 47) (by decide) hp_47 rfl rfl (Nat.le_of_ble_eq_true rfl) dX6_lends_33 (q := 36) rfl ?_
  rintro _ rfl
  refine v_iinc_3 hC (v := _ + 1) rfl rfl dX6_lends_36 (q := 39) rfl ?_
  rw [show (4 : Int32) + 1 = 5 from rfl]
  refine v_goto hC dX6_lends_39 (t := 2) rfl ?_
  refine v_iload_n hC rfl dX6_lends_2 (q := 3) rfl ?_
  refine v_bipush hC (v := 6) rfl dX6_lends_3 (q := 5) rfl ?_
  refine v_icmp_gt hC dX6_lends_5 (t := 42) rfl (q := 8) rfl (fun h => absurd h (by decide)) (fun _ => ?_)
  refine v_aload_n hC rfl dX6_lends_8 (q := 9) rfl ?_
  refine v_iload_n hC rfl dX6_lends_9 (q := 10) rfl ?_
  refine v_iload_n hC rfl dX6_lends_10 (q := 11) rfl ?_
  refine v_Vi hC lkV_X6_49 (c_X6_it (w := 5) (by omega) (by decide)) rfl (by decide) (k := 47) (by decide) hp_47 rfl rfl (Nat.le_of_ble_eq_true rfl) dX6_lends_11 (q := 14) rfl ?_
  rintro _ _ ⟨rfl, rfl⟩
  refine v_istore_4 hC rfl dX6_lends_14 (q := 16) rfl ?_
  refine v_aload_n hC rfl dX6_lends_16 (q := 17) rfl ?_
  refine v_iload_n hC rfl dX6_lends_17 (q := 18) rfl ?_
  refine v_iload_n hC rfl dX6_lends_18 (q := 19) rfl ?_
  refine v_aload_n hC rfl dX6_lends_19 (q := 20) rfl ?_
  refine v_iload_n hC rfl dX6_lends_20 (q := 21) rfl ?_
  refine v_iload_n hC rfl dX6_lends_21 (q := 22) rfl ?_
  refine v_Vi hC lkV_X6_49 (c_X6_it (w := 5) (by omega) (by decide)) rfl (by decide) (k := 47) (by decide) hp_47 rfl rfl (Nat.le_of_ble_eq_true rfl) dX6_lends_22 (q := 25) rfl ?_
  rintro _ _ ⟨rfl, rfl⟩
  refine v_Vv hC lkV_X6_63 (c_X6_put (w := 5) (by omega) (by decide)) rfl (by decide) (k := 47) (by decide) hp_47 rfl rfl (Nat.le_of_ble_eq_true rfl) dX6_lends_25 (q := 28) rfl ?_
  rintro _ rfl
  refine v_aload_n hC rfl dX6_lends_28 (q := 29) rfl ?_
  refine v_iload_n hC rfl dX6_lends_29 (q := 30) rfl ?_
  refine v_iload_n hC rfl dX6_lends_30 (q := 31) rfl ?_
  refine v_iload hC rfl dX6_lends_31 (q := 33) rfl ?_
  refine v_Vv hC lkV_X6_63 (c_X6_put (w := 5) (by omega) (by decide)) rfl (by decide) (k := 47) (by decide) hp_47 rfl rfl (Nat.le_of_ble_eq_true rfl) dX6_lends_33 (q := 36) rfl ?_
  rintro _ rfl
  refine v_iinc_3 hC (v := _ + 1) rfl rfl dX6_lends_36 (q := 39) rfl ?_
  rw [show (5 : Int32) + 1 = 6 from rfl]
  refine v_goto hC dX6_lends_39 (t := 2) rfl ?_
  refine v_iload_n hC rfl dX6_lends_2 (q := 3) rfl ?_
  refine v_bipush hC (v := 6) rfl dX6_lends_3 (q := 5) rfl ?_
  refine v_icmp_gt hC dX6_lends_5 (t := 42) rfl (q := 8) rfl (fun h => absurd h (by decide)) (fun _ => ?_)
  refine v_aload_n hC rfl dX6_lends_8 (q := 9) rfl ?_
  refine v_iload_n hC rfl dX6_lends_9 (q := 10) rfl ?_
  refine v_iload_n hC rfl dX6_lends_10 (q := 11) rfl ?_
  refine v_Vi hC lkV_X6_49 (c_X6_it (w := 6) (by omega) (by decide)) rfl (by decide) (k := 47) (by decide) hp_47 rfl rfl (Nat.le_of_ble_eq_true rfl) dX6_lends_11 (q := 14) rfl ?_
  rintro _ _ ⟨rfl, rfl⟩
  refine v_istore_4 hC rfl dX6_lends_14 (q := 16) rfl ?_
  refine v_aload_n hC rfl dX6_lends_16 (q := 17) rfl ?_
  refine v_iload_n hC rfl dX6_lends_17 (q := 18) rfl ?_
  refine v_iload_n hC rfl dX6_lends_18 (q := 19) rfl ?_
  refine v_aload_n hC rfl dX6_lends_19 (q := 20) rfl ?_
  refine v_iload_n hC rfl dX6_lends_20 (q := 21) rfl ?_
  refine v_iload_n hC rfl dX6_lends_21 (q := 22) rfl ?_
  refine v_Vi hC lkV_X6_49 (c_X6_it (w := 6) (by omega) (by decide)) rfl (by decide) (k := 47) (by decide) hp_47 rfl rfl (Nat.le_of_ble_eq_true rfl) dX6_lends_22 (q := 25) rfl ?_
  rintro _ _ ⟨rfl, rfl⟩
  refine v_Vv hC lkV_X6_63 (c_X6_put (w := 6) (by omega) (by decide)) rfl (by decide) (k := 47) (by decide) hp_47 rfl rfl (Nat.le_of_ble_eq_true rfl) dX6_lends_25 (q := 28) rfl ?_
  rintro _ rfl
  refine v_aload_n hC rfl dX6_lends_28 (q := 29) rfl ?_
  refine v_iload_n hC rfl dX6_lends_29 (q := 30) rfl ?_
  refine v_iload_n hC rfl dX6_lends_30 (q := 31) rfl ?_
  refine v_iload hC rfl dX6_lends_31 (q := 33) rfl ?_
  refine v_Vv hC lkV_X6_63 (c_X6_put (w := 6) (by omega) (by decide)) rfl (by decide) (k := 47) (by decide) hp_47 rfl rfl (Nat.le_of_ble_eq_true rfl) dX6_lends_33 (q := 36) rfl ?_
  rintro _ rfl
  refine v_iinc_3 hC (v := _ + 1) rfl rfl dX6_lends_36 (q := 39) rfl ?_
  rw [show (6 : Int32) + 1 = 7 from rfl]
  refine v_goto hC dX6_lends_39 (t := 2) rfl ?_
  refine v_iload_n hC rfl dX6_lends_2 (q := 3) rfl ?_
  refine v_bipush hC (v := 6) rfl dX6_lends_3 (q := 5) rfl ?_
  refine v_icmp_gt hC dX6_lends_5 (t := 42) rfl (q := 8) rfl (fun _ => ?_) (fun h => absurd (by decide) h)
  refine hR _ _ _ ?_ dX6_lends_42
  rfl

set_option maxHeartbeats 4000000 in
set_option maxRecDepth 100000 in
theorem c_X6_seesBy {l : Launch} {X : Gx} {S : CS} {i m : Nat → Int32} {r : Nat → Nat → Int32} {c : Nat → Int64} {n : Nat} (hN : m 1 = nI n) (h8 : n ≤ 8) {p : Nat} (h1 : p < 8) {v : Int32} : Ci l X yX6_seesBy cX6_seesBy 5 (some .int) (rmk 2 48) [.ref (ga X 47), .int (nI p), .int v] (hp X S (i, m, r, c)) (fun z g => z = seesF (nI p) (pv m p) v n ∧ g = hp X S (i, m, r, c)) := by
  refine ct_i (own := RX6) (lv := [some (.ref (ga X 47)), some (.int (nI p)), some (.int v), none, none]) (by decide) rfl (Nat.le_of_ble_eq_true rfl) (Nat.le_of_ble_eq_true rfl) rfl (fun C hC hR => ?_)
  have loop : ∀ j, j ≤ n → V l X (rmk 2 48) C (hp X S (i, m, r, c)) 5 [some (.ref (ga X 47)), some (.int (nI p)), some (.int v), some (.int (seesF (nI p) (pv m p) v j)), some (.int (nI j))] [] := by
    refine v_up n ?_ ?_
    · refine v_iload hC rfl dX6_seesBy_5 (q := 7) rfl ?_
      refine v_aload_n hC rfl dX6_seesBy_7 (q := 8) rfl ?_
      refine v_get hC fl_X6_9 (k := 47) (by decide) hp_47 rfl dX6_seesBy_8 (q := 11) rfl ?_
      refine v_iconst hC (v := 1) rfl dX6_seesBy_11 (q := 12) rfl ?_
      refine v_iald hC (k := 48) (by decide) hp_48 (vp_l (by decide)) (j := 1) rfl dX6_seesBy_12 (q := 13) rfl ?_
      refine v_icmp_ge hC dX6_seesBy_13 (t := 50) rfl (q := 16) rfl (fun _ => ?_) (fun h => absurd (by rw [hN]; exact Int32.le_refl _) h)
      refine v_iload_n hC rfl dX6_seesBy_50 (q := 51) rfl ?_
      refine hR _ _ _ _ ?_ dX6_seesBy_51
      exact ⟨rfl, rfl⟩
    · intro j hj ih
      refine v_iload hC rfl dX6_seesBy_5 (q := 7) rfl ?_
      refine v_aload_n hC rfl dX6_seesBy_7 (q := 8) rfl ?_
      refine v_get hC fl_X6_9 (k := 47) (by decide) hp_47 rfl dX6_seesBy_8 (q := 11) rfl ?_
      refine v_iconst hC (v := 1) rfl dX6_seesBy_11 (q := 12) rfl ?_
      refine v_iald hC (k := 48) (by decide) hp_48 (vp_l (by decide)) (j := 1) rfl dX6_seesBy_12 (q := 13) rfl ?_
      refine v_icmp_ge hC dX6_seesBy_13 (t := 50) rfl (q := 16) rfl (fun h => absurd h (by rw [hN]; exact nI_ge hj (by omega))) (fun _ => ?_)
      refine v_iload_n hC rfl dX6_seesBy_16 (q := 17) rfl ?_
      refine v_iload hC rfl dX6_seesBy_17 (q := 19) rfl ?_
      refine v_iload_n hC rfl dX6_seesBy_19 (q := 20) rfl ?_
      refine v_icmp_eq hC dX6_seesBy_20 (t := 41) rfl (q := 23) rfl (fun h20 => ?_) (fun h20 => ?_)
      · refine v_iconst hC (v := 0) rfl dX6_seesBy_41 (q := 42) rfl ?_
        refine v_ior hC dX6_seesBy_42 (q := 43) rfl ?_
        refine v_istore_3 hC rfl dX6_seesBy_43 (q := 44) rfl ?_
        refine v_iinc_4 hC (v := _ + 1) rfl rfl dX6_seesBy_44 (q := 47) rfl ?_
        refine v_goto hC dX6_seesBy_47 (t := 5) rfl ?_
        refine v_same rfl ?_ rfl ih
        first | (simp [nI_1, seesF, bitI, *]; done) | (simp only [nI_1, seesF, bitI]; grind)
      · refine v_aload_n hC rfl dX6_seesBy_23 (q := 24) rfl ?_
        refine v_iload_n hC rfl dX6_seesBy_24 (q := 25) rfl ?_
        refine v_iload hC rfl dX6_seesBy_25 (q := 27) rfl ?_
        refine v_Vi hC lkV_X6_57 (c_X6_looksAt (by omega)) rfl (by decide) (k := 47) (by decide) hp_47 rfl rfl (Nat.le_of_ble_eq_true rfl) dX6_seesBy_27 (q := 30) rfl ?_
        rintro _ _ ⟨rfl, rfl⟩
        refine v_iload_n hC rfl dX6_seesBy_30 (q := 31) rfl ?_
        refine v_icmp_lt hC dX6_seesBy_31 (t := 41) rfl (q := 34) rfl (fun h31 => ?_) (fun h31 => ?_)
        · refine v_iconst hC (v := 0) rfl dX6_seesBy_41 (q := 42) rfl ?_
          refine v_ior hC dX6_seesBy_42 (q := 43) rfl ?_
          refine v_istore_3 hC rfl dX6_seesBy_43 (q := 44) rfl ?_
          refine v_iinc_4 hC (v := _ + 1) rfl rfl dX6_seesBy_44 (q := 47) rfl ?_
          refine v_goto hC dX6_seesBy_47 (t := 5) rfl ?_
          refine v_same rfl ?_ rfl ih
          first | (simp [nI_1, seesF, bitI, *]; done) | (simp only [nI_1, seesF, bitI]; grind)
        · refine v_iconst hC (v := 1) rfl dX6_seesBy_34 (q := 35) rfl ?_
          refine v_iload hC rfl dX6_seesBy_35 (q := 37) rfl ?_
          refine v_ishl hC dX6_seesBy_37 (q := 38) rfl ?_
          refine v_goto hC dX6_seesBy_38 (t := 42) rfl ?_
          refine v_ior hC dX6_seesBy_42 (q := 43) rfl ?_
          refine v_istore_3 hC rfl dX6_seesBy_43 (q := 44) rfl ?_
          refine v_iinc_4 hC (v := _ + 1) rfl rfl dX6_seesBy_44 (q := 47) rfl ?_
          refine v_goto hC dX6_seesBy_47 (t := 5) rfl ?_
          refine v_same rfl ?_ rfl ih
          first | (simp [nI_1, seesF, bitI, *]; done) | (simp only [nI_1, seesF, bitI]; grind)
  refine v_iconst hC (v := 0) rfl dX6_seesBy_0 (q := 1) rfl ?_
  refine v_istore_3 hC rfl dX6_seesBy_1 (q := 2) rfl ?_
  refine v_iconst hC (v := 0) rfl dX6_seesBy_2 (q := 3) rfl ?_
  refine v_istore_4 hC rfl dX6_seesBy_3 (q := 5) rfl ?_
  exact loop 0 (Nat.zero_le _)

theorem goK_close {M : Nat → Int32} {j : Nat} {b : Int32} (hb : b = if pv (pu M j 1 (dayG (nI j) (pv M j))) j 3 = 0 ∧ pv (pu M j 1 (dayG (nI j) (pv M j))) j 1 < pv (pu M j 1 (dayG (nI j) (pv M j))) j 5 then 1 else 0) : pu (pu M j 1 (dayG (nI j) (pv M j))) j 6 (held (pv (pu M j 1 (dayG (nI j) (pv M j))) j 6 + b) 0 99) = goK M j := by
  rw [goK, hb, dayW]
  simp only [pv_pu (show (1 : Nat) < 7 by decide), upd]
  simp
set_option maxHeartbeats 4000000 in
set_option maxRecDepth 100000 in
theorem c_X6_goes {l : Launch} {X : Gx} {S : CS} {i m : Nat → Int32} {r : Nat → Nat → Int32} {c : Nat → Int64} {n : Nat} (hN : m 1 = nI n) (h8 : n ≤ 8) : Cv l X yX6_goes cX6_goes 3 (none) (rmk 4 93) [.ref (ga X 47)] (hp X S (i, m, r, c)) (fun g => g = hp X S (i, goM n m, r, c)) := by
  refine ct_v (own := RX6) (lv := [some (.ref (ga X 47)), none, none]) (by decide) rfl (Nat.le_of_ble_eq_true rfl) (Nat.le_of_ble_eq_true rfl) rfl (fun C hC hR => ?_)
  have e1 : ∀ j, goP m j 1 = nI n := fun j => (goP_1 j).trans hN
  have loop : ∀ j, j ≤ n → V l X (rmk 4 93) C (hp X S (i, goP m j, r, c)) 2 [some (.ref (ga X 47)), some (.int (nI j)), none] [] := by
    refine v_up n ?_ ?_
    · refine v_iload_n hC rfl dX6_goes_2 (q := 3) rfl ?_
      refine v_aload_n hC rfl dX6_goes_3 (q := 4) rfl ?_
      refine v_get hC fl_X6_9 (k := 47) (by decide) hp_47 rfl dX6_goes_4 (q := 7) rfl ?_
      refine v_iconst hC (v := 1) rfl dX6_goes_7 (q := 8) rfl ?_
      refine v_iald hC (k := 48) (by decide) hp_48 (vp_l (by decide)) (j := 1) rfl dX6_goes_8 (q := 9) rfl ?_
      refine v_icmp_ge hC dX6_goes_9 (t := 108) rfl (q := 12) rfl (fun _ => ?_) (fun h => absurd (by rw [e1]; exact Int32.le_refl _) h)
      refine v_aload_n hC rfl dX6_goes_108 (q := 109) rfl ?_
      refine v_get hC fl_X6_9 (k := 47) (by decide) hp_47 rfl dX6_goes_109 (q := 112) rfl ?_
      refine v_iconst hC (v := 0) rfl dX6_goes_112 (q := 113) rfl ?_
      refine v_dup2 hC rfl rfl dX6_goes_113 (q := 114) rfl ?_
      refine v_iald hC (k := 48) (by decide) hp_48 (vp_l (by decide)) (j := 0) rfl dX6_goes_114 (q := 115) rfl ?_
      refine v_iconst hC (v := 1) rfl dX6_goes_115 (q := 116) rfl ?_
      refine v_iadd hC dX6_goes_116 (q := 117) rfl ?_
      refine v_iast hC (k := 48) (by decide) hp_48 (vp_l (by decide)) (j := 0) rfl (hpr_0 _) dX6_goes_117 (q := 118) rfl ?_
      refine hR _ _ _ ?_ dX6_goes_118
      rfl
    · intro j hj ih
      have hj8 : j < 8 := by omega
      refine v_iload_n hC rfl dX6_goes_2 (q := 3) rfl ?_
      refine v_aload_n hC rfl dX6_goes_3 (q := 4) rfl ?_
      refine v_get hC fl_X6_9 (k := 47) (by decide) hp_47 rfl dX6_goes_4 (q := 7) rfl ?_
      refine v_iconst hC (v := 1) rfl dX6_goes_7 (q := 8) rfl ?_
      refine v_iald hC (k := 48) (by decide) hp_48 (vp_l (by decide)) (j := 1) rfl dX6_goes_8 (q := 9) rfl ?_
      refine v_icmp_ge hC dX6_goes_9 (t := 108) rfl (q := 12) rfl (fun h => absurd h (by rw [e1]; exact nI_ge hj (by omega))) (fun _ => ?_)
      refine v_aload_n hC rfl dX6_goes_12 (q := 13) rfl ?_
      refine v_iload_n hC rfl dX6_goes_13 (q := 14) rfl ?_
      refine v_iconst hC (v := 1) rfl dX6_goes_14 (q := 15) rfl ?_
      refine v_aload_n hC rfl dX6_goes_15 (q := 16) rfl ?_
      refine v_iload_n hC rfl dX6_goes_16 (q := 17) rfl ?_
      refine v_iconst hC (v := 1) rfl dX6_goes_17 (q := 18) rfl ?_
      refine v_Vi hC lkV_X6_49 (c_X6_it (w := 1) (by first | assumption | omega) (Nat.le_of_ble_eq_true rfl)) rfl (by decide) (k := 47) (by decide) hp_47 rfl rfl (Nat.le_of_ble_eq_true rfl) dX6_goes_18 (q := 21) rfl ?_
      rintro _ _ ⟨rfl, rfl⟩
      refine v_aload_n hC rfl dX6_goes_21 (q := 22) rfl ?_
      refine v_iload_n hC rfl dX6_goes_22 (q := 23) rfl ?_
      refine v_Vi hC lkV_X6_77 (c_X6_grows (by omega)) rfl (by decide) (k := 47) (by decide) hp_47 rfl rfl (Nat.le_of_ble_eq_true rfl) dX6_goes_23 (q := 26) rfl ?_
      rintro _ _ ⟨rfl, rfl⟩
      refine v_iadd hC dX6_goes_26 (q := 27) rfl ?_
      refine v_aload_n hC rfl dX6_goes_27 (q := 28) rfl ?_
      refine v_iload_n hC rfl dX6_goes_28 (q := 29) rfl ?_
      refine v_Vi hC lkV_X6_74 (c_X6_eases (by omega)) rfl (by decide) (k := 47) (by decide) hp_47 rfl rfl (Nat.le_of_ble_eq_true rfl) dX6_goes_29 (q := 32) rfl ?_
      rintro _ _ ⟨rfl, rfl⟩
      refine v_isub hC dX6_goes_32 (q := 33) rfl ?_
      refine v_iconst hC (v := 0) rfl dX6_goes_33 (q := 34) rfl ?_
      refine v_bipush hC (v := 99) rfl dX6_goes_34 (q := 36) rfl ?_
      refine v_Si hC lkS_X6_53 c_X6_held rfl (by decide) rfl (Nat.le_of_ble_eq_true rfl) dX6_goes_36 (q := 39) rfl ?_
      rintro _ _ ⟨rfl, rfl⟩
      refine v_Vv hC lkV_X6_63 (c_X6_put (w := 1) (by first | assumption | omega) (Nat.le_of_ble_eq_true rfl)) rfl (by decide) (k := 47) (by decide) hp_47 rfl rfl (Nat.le_of_ble_eq_true rfl) dX6_goes_39 (q := 42) rfl ?_
      rintro _ rfl
      refine v_aload_n hC rfl dX6_goes_42 (q := 43) rfl ?_
      refine v_iload_n hC rfl dX6_goes_43 (q := 44) rfl ?_
      refine v_iconst hC (v := 3) rfl dX6_goes_44 (q := 45) rfl ?_
      refine v_Vi hC lkV_X6_49 (c_X6_it (w := 3) (by first | assumption | omega) (Nat.le_of_ble_eq_true rfl)) rfl (by decide) (k := 47) (by decide) hp_47 rfl rfl (Nat.le_of_ble_eq_true rfl) dX6_goes_45 (q := 48) rfl ?_
      rintro _ _ ⟨rfl, rfl⟩
      refine v_if_ne hC dX6_goes_48 (t := 70) rfl (q := 51) rfl (fun h48 => ?_) (fun h48 => ?_)
      · refine v_iconst hC (v := 0) rfl dX6_goes_70 (q := 71) rfl ?_
        refine v_istore_2 hC rfl dX6_goes_71 (q := 72) rfl ?_
        refine v_aload_n hC rfl dX6_goes_72 (q := 73) rfl ?_
        refine v_iload_n hC rfl dX6_goes_73 (q := 74) rfl ?_
        refine v_bipush hC (v := 6) rfl dX6_goes_74 (q := 76) rfl ?_
        refine v_aload_n hC rfl dX6_goes_76 (q := 77) rfl ?_
        refine v_iload_n hC rfl dX6_goes_77 (q := 78) rfl ?_
        refine v_bipush hC (v := 6) rfl dX6_goes_78 (q := 80) rfl ?_
        refine v_Vi hC lkV_X6_49 (c_X6_it (w := 6) (by first | assumption | omega) (Nat.le_of_ble_eq_true rfl)) rfl (by decide) (k := 47) (by decide) hp_47 rfl rfl (Nat.le_of_ble_eq_true rfl) dX6_goes_80 (q := 83) rfl ?_
        rintro _ _ ⟨rfl, rfl⟩
        refine v_iload_n hC rfl dX6_goes_83 (q := 84) rfl ?_
        refine v_if_eq hC dX6_goes_84 (t := 91) rfl (q := 87) rfl (fun _ => ?_) (fun h => absurd h (by decide))
        refine v_iconst hC (v := 0) rfl dX6_goes_91 (q := 92) rfl ?_
        refine v_iadd hC dX6_goes_92 (q := 93) rfl ?_
        refine v_iconst hC (v := 0) rfl dX6_goes_93 (q := 94) rfl ?_
        refine v_bipush hC (v := 99) rfl dX6_goes_94 (q := 96) rfl ?_
        refine v_Si hC lkS_X6_53 c_X6_held rfl (by decide) rfl (Nat.le_of_ble_eq_true rfl) dX6_goes_96 (q := 99) rfl ?_
        rintro _ _ ⟨rfl, rfl⟩
        refine v_Vv hC lkV_X6_63 (c_X6_put (w := 6) (by first | assumption | omega) (Nat.le_of_ble_eq_true rfl)) rfl (by decide) (k := 47) (by decide) hp_47 rfl rfl (Nat.le_of_ble_eq_true rfl) dX6_goes_99 (q := 102) rfl ?_
        rintro _ rfl
        refine v_iinc_1 hC (v := _ + 1) rfl rfl dX6_goes_102 (q := 105) rfl ?_
        refine v_goto hC dX6_goes_105 (t := 2) rfl ?_
        refine v_weak (lv' := [some (.ref (ga X 47)), some (.int (nI j + 1)), none]) ⟨rfl, rfl, trivial⟩ ?_
        refine v_same ?_ ?_ rfl ih
        · exact congrArg (fun z => hp X S (i, z, r, c)) (goK_close (by first | rw [if_neg (fun z => h48 z.1)] | rw [if_neg (fun z => Int32.not_lt.mpr h63 z.2)] | rw [if_pos ⟨h48, Int32.not_le.mp h63⟩]))
        · simp [nI_1]
      · refine v_aload_n hC rfl dX6_goes_51 (q := 52) rfl ?_
        refine v_iload_n hC rfl dX6_goes_52 (q := 53) rfl ?_
        refine v_iconst hC (v := 1) rfl dX6_goes_53 (q := 54) rfl ?_
        refine v_Vi hC lkV_X6_49 (c_X6_it (w := 1) (by first | assumption | omega) (Nat.le_of_ble_eq_true rfl)) rfl (by decide) (k := 47) (by decide) hp_47 rfl rfl (Nat.le_of_ble_eq_true rfl) dX6_goes_54 (q := 57) rfl ?_
        rintro _ _ ⟨rfl, rfl⟩
        refine v_aload_n hC rfl dX6_goes_57 (q := 58) rfl ?_
        refine v_iload_n hC rfl dX6_goes_58 (q := 59) rfl ?_
        refine v_iconst hC (v := 5) rfl dX6_goes_59 (q := 60) rfl ?_
        refine v_Vi hC lkV_X6_49 (c_X6_it (w := 5) (by first | assumption | omega) (Nat.le_of_ble_eq_true rfl)) rfl (by decide) (k := 47) (by decide) hp_47 rfl rfl (Nat.le_of_ble_eq_true rfl) dX6_goes_60 (q := 63) rfl ?_
        rintro _ _ ⟨rfl, rfl⟩
        refine v_icmp_ge hC dX6_goes_63 (t := 70) rfl (q := 66) rfl (fun h63 => ?_) (fun h63 => ?_)
        · refine v_iconst hC (v := 0) rfl dX6_goes_70 (q := 71) rfl ?_
          refine v_istore_2 hC rfl dX6_goes_71 (q := 72) rfl ?_
          refine v_aload_n hC rfl dX6_goes_72 (q := 73) rfl ?_
          refine v_iload_n hC rfl dX6_goes_73 (q := 74) rfl ?_
          refine v_bipush hC (v := 6) rfl dX6_goes_74 (q := 76) rfl ?_
          refine v_aload_n hC rfl dX6_goes_76 (q := 77) rfl ?_
          refine v_iload_n hC rfl dX6_goes_77 (q := 78) rfl ?_
          refine v_bipush hC (v := 6) rfl dX6_goes_78 (q := 80) rfl ?_
          refine v_Vi hC lkV_X6_49 (c_X6_it (w := 6) (by first | assumption | omega) (Nat.le_of_ble_eq_true rfl)) rfl (by decide) (k := 47) (by decide) hp_47 rfl rfl (Nat.le_of_ble_eq_true rfl) dX6_goes_80 (q := 83) rfl ?_
          rintro _ _ ⟨rfl, rfl⟩
          refine v_iload_n hC rfl dX6_goes_83 (q := 84) rfl ?_
          refine v_if_eq hC dX6_goes_84 (t := 91) rfl (q := 87) rfl (fun _ => ?_) (fun h => absurd h (by decide))
          refine v_iconst hC (v := 0) rfl dX6_goes_91 (q := 92) rfl ?_
          refine v_iadd hC dX6_goes_92 (q := 93) rfl ?_
          refine v_iconst hC (v := 0) rfl dX6_goes_93 (q := 94) rfl ?_
          refine v_bipush hC (v := 99) rfl dX6_goes_94 (q := 96) rfl ?_
          refine v_Si hC lkS_X6_53 c_X6_held rfl (by decide) rfl (Nat.le_of_ble_eq_true rfl) dX6_goes_96 (q := 99) rfl ?_
          rintro _ _ ⟨rfl, rfl⟩
          refine v_Vv hC lkV_X6_63 (c_X6_put (w := 6) (by first | assumption | omega) (Nat.le_of_ble_eq_true rfl)) rfl (by decide) (k := 47) (by decide) hp_47 rfl rfl (Nat.le_of_ble_eq_true rfl) dX6_goes_99 (q := 102) rfl ?_
          rintro _ rfl
          refine v_iinc_1 hC (v := _ + 1) rfl rfl dX6_goes_102 (q := 105) rfl ?_
          refine v_goto hC dX6_goes_105 (t := 2) rfl ?_
          refine v_weak (lv' := [some (.ref (ga X 47)), some (.int (nI j + 1)), none]) ⟨rfl, rfl, trivial⟩ ?_
          refine v_same ?_ ?_ rfl ih
          · exact congrArg (fun z => hp X S (i, z, r, c)) (goK_close (by first | rw [if_neg (fun z => h48 z.1)] | rw [if_neg (fun z => Int32.not_lt.mpr h63 z.2)] | rw [if_pos ⟨h48, Int32.not_le.mp h63⟩]))
          · simp [nI_1]
        · refine v_iconst hC (v := 1) rfl dX6_goes_66 (q := 67) rfl ?_
          refine v_goto hC dX6_goes_67 (t := 71) rfl ?_
          refine v_istore_2 hC rfl dX6_goes_71 (q := 72) rfl ?_
          refine v_aload_n hC rfl dX6_goes_72 (q := 73) rfl ?_
          refine v_iload_n hC rfl dX6_goes_73 (q := 74) rfl ?_
          refine v_bipush hC (v := 6) rfl dX6_goes_74 (q := 76) rfl ?_
          refine v_aload_n hC rfl dX6_goes_76 (q := 77) rfl ?_
          refine v_iload_n hC rfl dX6_goes_77 (q := 78) rfl ?_
          refine v_bipush hC (v := 6) rfl dX6_goes_78 (q := 80) rfl ?_
          refine v_Vi hC lkV_X6_49 (c_X6_it (w := 6) (by first | assumption | omega) (Nat.le_of_ble_eq_true rfl)) rfl (by decide) (k := 47) (by decide) hp_47 rfl rfl (Nat.le_of_ble_eq_true rfl) dX6_goes_80 (q := 83) rfl ?_
          rintro _ _ ⟨rfl, rfl⟩
          refine v_iload_n hC rfl dX6_goes_83 (q := 84) rfl ?_
          refine v_if_eq hC dX6_goes_84 (t := 91) rfl (q := 87) rfl (fun h => absurd h (by decide)) (fun _ => ?_)
          refine v_iconst hC (v := 1) rfl dX6_goes_87 (q := 88) rfl ?_
          refine v_goto hC dX6_goes_88 (t := 92) rfl ?_
          refine v_iadd hC dX6_goes_92 (q := 93) rfl ?_
          refine v_iconst hC (v := 0) rfl dX6_goes_93 (q := 94) rfl ?_
          refine v_bipush hC (v := 99) rfl dX6_goes_94 (q := 96) rfl ?_
          refine v_Si hC lkS_X6_53 c_X6_held rfl (by decide) rfl (Nat.le_of_ble_eq_true rfl) dX6_goes_96 (q := 99) rfl ?_
          rintro _ _ ⟨rfl, rfl⟩
          refine v_Vv hC lkV_X6_63 (c_X6_put (w := 6) (by first | assumption | omega) (Nat.le_of_ble_eq_true rfl)) rfl (by decide) (k := 47) (by decide) hp_47 rfl rfl (Nat.le_of_ble_eq_true rfl) dX6_goes_99 (q := 102) rfl ?_
          rintro _ rfl
          refine v_iinc_1 hC (v := _ + 1) rfl rfl dX6_goes_102 (q := 105) rfl ?_
          refine v_goto hC dX6_goes_105 (t := 2) rfl ?_
          refine v_weak (lv' := [some (.ref (ga X 47)), some (.int (nI j + 1)), none]) ⟨rfl, rfl, trivial⟩ ?_
          refine v_same ?_ ?_ rfl ih
          · exact congrArg (fun z => hp X S (i, z, r, c)) (goK_close (by first | rw [if_neg (fun z => h48 z.1)] | rw [if_neg (fun z => Int32.not_lt.mpr h63 z.2)] | rw [if_pos ⟨h48, Int32.not_le.mp h63⟩]))
          · simp [nI_1]
  refine v_iconst hC (v := 0) rfl dX6_goes_0 (q := 1) rfl ?_
  refine v_istore_1 hC rfl dX6_goes_1 (q := 2) rfl ?_
  exact loop 0 (Nat.zero_le _)

set_option maxHeartbeats 4000000 in
set_option maxRecDepth 100000 in
theorem c_X6_goesFor {l : Launch} {X : Gx} {S : CS} {i m : Nat → Int32} {r : Nat → Nat → Int32} {c : Nat → Int64} {n : Nat} (hN : m 1 = nI n) (h8 : n ≤ 8) {k : Nat} (hk : k < 2147483648) : Cv l X yX6_goesFor cX6_goesFor 3 (none) (rmk 5 115) [.ref (ga X 47), .int (nI k)] (hp X S (i, m, r, c)) (fun g => g = hp X S (i, goN n m k, r, c)) := by
  refine ct_v (own := RX6) (lv := [some (.ref (ga X 47)), some (.int (nI k)), none]) (by decide) rfl (Nat.le_of_ble_eq_true rfl) (Nat.le_of_ble_eq_true rfl) rfl (fun C hC hR => ?_)
  have e1 : ∀ j, goN n m j 1 = nI n := fun j => (goN_1 j).trans hN
  have loop : ∀ j, j ≤ k → V l X (rmk 5 115) C (hp X S (i, goN n m j, r, c)) 2 [some (.ref (ga X 47)), some (.int (nI k)), some (.int (nI j))] [] := by
    refine v_up k ?_ ?_
    · refine v_iload_n hC rfl dX6_goesFor_2 (q := 3) rfl ?_
      refine v_iload_n hC rfl dX6_goesFor_3 (q := 4) rfl ?_
      refine v_icmp_ge hC dX6_goesFor_4 (t := 17) rfl (q := 7) rfl (fun _ => ?_) (fun h => absurd (Int32.le_refl _) h)
      refine hR _ _ _ ?_ dX6_goesFor_17
      rfl
    · intro j hj ih
      refine v_iload_n hC rfl dX6_goesFor_2 (q := 3) rfl ?_
      refine v_iload_n hC rfl dX6_goesFor_3 (q := 4) rfl ?_
      refine v_icmp_ge hC dX6_goesFor_4 (t := 17) rfl (q := 7) rfl (fun h => absurd h (nI_ge hj hk)) (fun _ => ?_)
      refine v_aload_n hC rfl dX6_goesFor_7 (q := 8) rfl ?_
      refine v_Vv hC lkV_X6_102 (c_X6_goes (e1 j) h8) rfl (by decide) (k := 47) (by decide) hp_47 rfl rfl (Nat.le_of_ble_eq_true rfl) dX6_goesFor_8 (q := 11) rfl ?_
      rintro _ rfl
      refine v_iinc_2 hC (v := _ + 1) rfl rfl dX6_goesFor_11 (q := 14) rfl ?_
      refine v_goto hC dX6_goesFor_14 (t := 2) rfl ?_
      refine v_same rfl ?_ rfl ih
      simp [nI_1]
  refine v_iconst hC (v := 0) rfl dX6_goesFor_0 (q := 1) rfl ?_
  refine v_istore_2 hC rfl dX6_goesFor_1 (q := 2) rfl ?_
  exact loop 0 (Nat.zero_le _)

set_option maxHeartbeats 4000000 in
set_option maxRecDepth 100000 in
theorem c_X6_sums {l : Launch} {X : Gx} {S : CS} {i m : Nat → Int32} {r : Nat → Nat → Int32} {c : Nat → Int64} {n : Nat} (hN : m 1 = nI n) (h8 : n ≤ 8) {w : Nat} (h2 : w < 7) : Ci l X yX6_sums cX6_sums 4 (some .int) (rmk 1 22) [.ref (ga X 47), .int (nI w)] (hp X S (i, m, r, c)) (fun z g => z = sumF (pv m) w n ∧ g = hp X S (i, m, r, c)) := by
  refine ct_i (own := RX6) (lv := [some (.ref (ga X 47)), some (.int (nI w)), none, none]) (by decide) rfl (Nat.le_of_ble_eq_true rfl) (Nat.le_of_ble_eq_true rfl) rfl (fun C hC hR => ?_)
  have loop : ∀ j, j ≤ n → V l X (rmk 1 22) C (hp X S (i, m, r, c)) 4 [some (.ref (ga X 47)), some (.int (nI w)), some (.int (sumF (pv m) w j)), some (.int (nI j))] [] := by
    refine v_up n ?_ ?_
    · refine v_iload_n hC rfl dX6_sums_4 (q := 5) rfl ?_
      refine v_aload_n hC rfl dX6_sums_5 (q := 6) rfl ?_
      refine v_get hC fl_X6_9 (k := 47) (by decide) hp_47 rfl dX6_sums_6 (q := 9) rfl ?_
      refine v_iconst hC (v := 1) rfl dX6_sums_9 (q := 10) rfl ?_
      refine v_iald hC (k := 48) (by decide) hp_48 (vp_l (by decide)) (j := 1) rfl dX6_sums_10 (q := 11) rfl ?_
      refine v_icmp_ge hC dX6_sums_11 (t := 29) rfl (q := 14) rfl (fun _ => ?_) (fun h => absurd (by rw [hN]; exact Int32.le_refl _) h)
      refine v_iload_n hC rfl dX6_sums_29 (q := 30) rfl ?_
      refine hR _ _ _ _ ?_ dX6_sums_30
      exact ⟨rfl, rfl⟩
    · intro j hj ih
      refine v_iload_n hC rfl dX6_sums_4 (q := 5) rfl ?_
      refine v_aload_n hC rfl dX6_sums_5 (q := 6) rfl ?_
      refine v_get hC fl_X6_9 (k := 47) (by decide) hp_47 rfl dX6_sums_6 (q := 9) rfl ?_
      refine v_iconst hC (v := 1) rfl dX6_sums_9 (q := 10) rfl ?_
      refine v_iald hC (k := 48) (by decide) hp_48 (vp_l (by decide)) (j := 1) rfl dX6_sums_10 (q := 11) rfl ?_
      refine v_icmp_ge hC dX6_sums_11 (t := 29) rfl (q := 14) rfl (fun h => absurd h (by rw [hN]; exact nI_ge hj (by omega))) (fun _ => ?_)
      refine v_iload_n hC rfl dX6_sums_14 (q := 15) rfl ?_
      refine v_aload_n hC rfl dX6_sums_15 (q := 16) rfl ?_
      refine v_iload_n hC rfl dX6_sums_16 (q := 17) rfl ?_
      refine v_iload_n hC rfl dX6_sums_17 (q := 18) rfl ?_
      refine v_Vi hC lkV_X6_49 (c_X6_it (by omega) (by omega)) rfl (by decide) (k := 47) (by decide) hp_47 rfl rfl (Nat.le_of_ble_eq_true rfl) dX6_sums_18 (q := 21) rfl ?_
      rintro _ _ ⟨rfl, rfl⟩
      refine v_iadd hC dX6_sums_21 (q := 22) rfl ?_
      refine v_istore_2 hC rfl dX6_sums_22 (q := 23) rfl ?_
      refine v_iinc_3 hC (v := _ + 1) rfl rfl dX6_sums_23 (q := 26) rfl ?_
      refine v_goto hC dX6_sums_26 (t := 4) rfl ?_
      refine v_same rfl ?_ rfl ih
      simp [nI_1, sumF]
  refine v_iconst hC (v := 0) rfl dX6_sums_0 (q := 1) rfl ?_
  refine v_istore_2 hC rfl dX6_sums_1 (q := 2) rfl ?_
  refine v_iconst hC (v := 0) rfl dX6_sums_2 (q := 3) rfl ?_
  refine v_istore_3 hC rfl dX6_sums_3 (q := 4) rfl ?_
  exact loop 0 (Nat.zero_le _)

set_option maxHeartbeats 4000000 in
set_option maxRecDepth 100000 in
theorem c_X6_seen {l : Launch} {X : Gx} {S : CS} {i m : Nat → Int32} {r : Nat → Nat → Int32} {c : Nat → Int64} {n : Nat} (hN : m 1 = nI n) (h8 : n ≤ 8) : Ci l X yX6_seen cX6_seen 3 (some .int) (rmk 3 72) [.ref (ga X 47)] (hp X S (i, m, r, c)) (fun z g => z = seenF (pv m) n n ∧ g = hp X S (i, m, r, c)) := by
  refine ct_i (own := RX6) (lv := [some (.ref (ga X 47)), none, none]) (by decide) rfl (Nat.le_of_ble_eq_true rfl) (Nat.le_of_ble_eq_true rfl) rfl (fun C hC hR => ?_)
  have loop : ∀ j, j ≤ n → V l X (rmk 3 72) C (hp X S (i, m, r, c)) 4 [some (.ref (ga X 47)), some (.int (seenF (pv m) n j)), some (.int (nI j))] [] := by
    refine v_up n ?_ ?_
    · refine v_iload_n hC rfl dX6_seen_4 (q := 5) rfl ?_
      refine v_aload_n hC rfl dX6_seen_5 (q := 6) rfl ?_
      refine v_get hC fl_X6_9 (k := 47) (by decide) hp_47 rfl dX6_seen_6 (q := 9) rfl ?_
      refine v_iconst hC (v := 1) rfl dX6_seen_9 (q := 10) rfl ?_
      refine v_iald hC (k := 48) (by decide) hp_48 (vp_l (by decide)) (j := 1) rfl dX6_seen_10 (q := 11) rfl ?_
      refine v_icmp_ge hC dX6_seen_11 (t := 30) rfl (q := 14) rfl (fun _ => ?_) (fun h => absurd (by rw [hN]; exact Int32.le_refl _) h)
      refine v_iload_n hC rfl dX6_seen_30 (q := 31) rfl ?_
      refine hR _ _ _ _ ?_ dX6_seen_31
      exact ⟨rfl, rfl⟩
    · intro j hj ih
      refine v_iload_n hC rfl dX6_seen_4 (q := 5) rfl ?_
      refine v_aload_n hC rfl dX6_seen_5 (q := 6) rfl ?_
      refine v_get hC fl_X6_9 (k := 47) (by decide) hp_47 rfl dX6_seen_6 (q := 9) rfl ?_
      refine v_iconst hC (v := 1) rfl dX6_seen_9 (q := 10) rfl ?_
      refine v_iald hC (k := 48) (by decide) hp_48 (vp_l (by decide)) (j := 1) rfl dX6_seen_10 (q := 11) rfl ?_
      refine v_icmp_ge hC dX6_seen_11 (t := 30) rfl (q := 14) rfl (fun h => absurd h (by rw [hN]; exact nI_ge hj (by omega))) (fun _ => ?_)
      refine v_iload_n hC rfl dX6_seen_14 (q := 15) rfl ?_
      refine v_aload_n hC rfl dX6_seen_15 (q := 16) rfl ?_
      refine v_iload_n hC rfl dX6_seen_16 (q := 17) rfl ?_
      refine v_bipush hC (v := 30) rfl dX6_seen_17 (q := 19) rfl ?_
      refine v_Vi hC lkV_X6_99 (c_X6_seesBy hN h8 (by omega)) rfl (by decide) (k := 47) (by decide) hp_47 rfl rfl (Nat.le_of_ble_eq_true rfl) dX6_seen_19 (q := 22) rfl ?_
      rintro _ _ ⟨rfl, rfl⟩
      refine v_ior hC dX6_seen_22 (q := 23) rfl ?_
      refine v_istore_1 hC rfl dX6_seen_23 (q := 24) rfl ?_
      refine v_iinc_2 hC (v := _ + 1) rfl rfl dX6_seen_24 (q := 27) rfl ?_
      refine v_goto hC dX6_seen_27 (t := 4) rfl ?_
      refine v_same rfl ?_ rfl ih
      simp [nI_1, seenF]
  refine v_iconst hC (v := 0) rfl dX6_seen_0 (q := 1) rfl ?_
  refine v_istore_1 hC rfl dX6_seen_1 (q := 2) rfl ?_
  refine v_iconst hC (v := 0) rfl dX6_seen_2 (q := 3) rfl ?_
  refine v_istore_2 hC rfl dX6_seen_3 (q := 4) rfl ?_
  exact loop 0 (Nat.zero_le _)

set_option maxHeartbeats 4000000 in
set_option maxRecDepth 100000 in
theorem c_X6_thoseWith {l : Launch} {X : Gx} {S : CS} {i m : Nat → Int32} {r : Nat → Nat → Int32} {c : Nat → Int64} {n : Nat} (hN : m 1 = nI n) (h8 : n ≤ 8) {w : Nat} {v : Int32} (h2 : w < 7) : Ci l X yX6_thoseWith cX6_thoseWith 5 (some .int) (rmk 1 22) [.ref (ga X 47), .int (nI w), .int v] (hp X S (i, m, r, c)) (fun z g => z = withF (pv m) w v n ∧ g = hp X S (i, m, r, c)) := by
  refine ct_i (own := RX6) (lv := [some (.ref (ga X 47)), some (.int (nI w)), some (.int v), none, none]) (by decide) rfl (Nat.le_of_ble_eq_true rfl) (Nat.le_of_ble_eq_true rfl) rfl (fun C hC hR => ?_)
  have loop : ∀ j, j ≤ n → V l X (rmk 1 22) C (hp X S (i, m, r, c)) 5 [some (.ref (ga X 47)), some (.int (nI w)), some (.int v), some (.int (withF (pv m) w v j)), some (.int (nI j))] [] := by
    refine v_up n ?_ ?_
    · refine v_iload hC rfl dX6_thoseWith_5 (q := 7) rfl ?_
      refine v_aload_n hC rfl dX6_thoseWith_7 (q := 8) rfl ?_
      refine v_get hC fl_X6_9 (k := 47) (by decide) hp_47 rfl dX6_thoseWith_8 (q := 11) rfl ?_
      refine v_iconst hC (v := 1) rfl dX6_thoseWith_11 (q := 12) rfl ?_
      refine v_iald hC (k := 48) (by decide) hp_48 (vp_l (by decide)) (j := 1) rfl dX6_thoseWith_12 (q := 13) rfl ?_
      refine v_icmp_ge hC dX6_thoseWith_13 (t := 44) rfl (q := 16) rfl (fun _ => ?_) (fun h => absurd (by rw [hN]; exact Int32.le_refl _) h)
      refine v_iload_n hC rfl dX6_thoseWith_44 (q := 45) rfl ?_
      refine hR _ _ _ _ ?_ dX6_thoseWith_45
      exact ⟨rfl, rfl⟩
    · intro j hj ih
      refine v_iload hC rfl dX6_thoseWith_5 (q := 7) rfl ?_
      refine v_aload_n hC rfl dX6_thoseWith_7 (q := 8) rfl ?_
      refine v_get hC fl_X6_9 (k := 47) (by decide) hp_47 rfl dX6_thoseWith_8 (q := 11) rfl ?_
      refine v_iconst hC (v := 1) rfl dX6_thoseWith_11 (q := 12) rfl ?_
      refine v_iald hC (k := 48) (by decide) hp_48 (vp_l (by decide)) (j := 1) rfl dX6_thoseWith_12 (q := 13) rfl ?_
      refine v_icmp_ge hC dX6_thoseWith_13 (t := 44) rfl (q := 16) rfl (fun h => absurd h (by rw [hN]; exact nI_ge hj (by omega))) (fun _ => ?_)
      refine v_iload_n hC rfl dX6_thoseWith_16 (q := 17) rfl ?_
      refine v_aload_n hC rfl dX6_thoseWith_17 (q := 18) rfl ?_
      refine v_iload hC rfl dX6_thoseWith_18 (q := 20) rfl ?_
      refine v_iload_n hC rfl dX6_thoseWith_20 (q := 21) rfl ?_
      refine v_Vi hC lkV_X6_49 (c_X6_it (by omega) (by omega)) rfl (by decide) (k := 47) (by decide) hp_47 rfl rfl (Nat.le_of_ble_eq_true rfl) dX6_thoseWith_21 (q := 24) rfl ?_
      rintro _ _ ⟨rfl, rfl⟩
      refine v_iload_n hC rfl dX6_thoseWith_24 (q := 25) rfl ?_
      refine v_icmp_ne hC dX6_thoseWith_25 (t := 35) rfl (q := 28) rfl (fun h25 => ?_) (fun h25 => ?_)
      · refine v_iconst hC (v := 0) rfl dX6_thoseWith_35 (q := 36) rfl ?_
        refine v_ior hC dX6_thoseWith_36 (q := 37) rfl ?_
        refine v_istore_3 hC rfl dX6_thoseWith_37 (q := 38) rfl ?_
        refine v_iinc_4 hC (v := _ + 1) rfl rfl dX6_thoseWith_38 (q := 41) rfl ?_
        refine v_goto hC dX6_thoseWith_41 (t := 5) rfl ?_
        refine v_same rfl ?_ rfl ih
        simp [nI_1, withF, bitI, *]
      · refine v_iconst hC (v := 1) rfl dX6_thoseWith_28 (q := 29) rfl ?_
        refine v_iload hC rfl dX6_thoseWith_29 (q := 31) rfl ?_
        refine v_ishl hC dX6_thoseWith_31 (q := 32) rfl ?_
        refine v_goto hC dX6_thoseWith_32 (t := 36) rfl ?_
        refine v_ior hC dX6_thoseWith_36 (q := 37) rfl ?_
        refine v_istore_3 hC rfl dX6_thoseWith_37 (q := 38) rfl ?_
        refine v_iinc_4 hC (v := _ + 1) rfl rfl dX6_thoseWith_38 (q := 41) rfl ?_
        refine v_goto hC dX6_thoseWith_41 (t := 5) rfl ?_
        refine v_same rfl ?_ rfl ih
        simp [nI_1, withF, bitI, *]
  refine v_iconst hC (v := 0) rfl dX6_thoseWith_0 (q := 1) rfl ?_
  refine v_istore_3 hC rfl dX6_thoseWith_1 (q := 2) rfl ?_
  refine v_iconst hC (v := 0) rfl dX6_thoseWith_2 (q := 3) rfl ?_
  refine v_istore_4 hC rfl dX6_thoseWith_3 (q := 5) rfl ?_
  exact loop 0 (Nat.zero_le _)

def cpK (f g : Nat → Int32) (n : Nat) : Nat → Int32 := fun k => if k < n then f k else g k
theorem cpK_s (f g : Nat → Int32) (n : Nat) : upd (cpK f g n) n (f n) = cpK f g (n + 1) := by
  funext k
  simp only [upd, cpK]
  by_cases h : k = n
  · subst h; simp
  · rw [if_neg h]
    by_cases h2 : k < n
    · rw [if_pos h2, if_pos (by omega)]
    · rw [if_neg h2, if_neg (by omega)]
theorem cpK_0 (f g : Nat → Int32) : cpK f g 0 = g := by funext k; simp [cpK]
theorem ix58 : ∀ j : Fin 58, ¬ (nI j.val < 0 ∨ 58 ≤ (nI j.val).toNatClampNeg) := by decide +kernel
theorem up_id {α : Type} (f : Nat → α) (k : Nat) : va_up f k (f k) = f := by
  funext j
  simp only [va_up]
  by_cases h : j = k
  · rw [if_pos h, h]
  · rw [if_neg h]
def lenR (n : Nat) : Nat := if n = 3 then 7 else if n = 4 then 120 else if n = 5 then 4 else if n = 6 then 4 else 58
theorem hp_cg {X : Gx} {S : CS} {i m m' : Nat → Int32} {r r' : Nat → Nat → Int32} {c c' : Nat → Int64} (hm : ∀ j, j < 58 → m j = m' j) (hr : ∀ n j, j < lenR n → r n j = r' n j) (hc : ∀ j, j < 160 → c j = c' j) : ∀ k, k < 56 → cEq (hp X S (i, m, r, c) k) (hp X S (i, m', r', c') k) := by
  intro k hk
  by_cases h : k < 47
  · left; simp only [hp, if_pos h]
  · have : k = 47 ∨ k = 48 ∨ k = 49 ∨ k = 50 ∨ k = 51 ∨ k = 52 ∨ k = 53 ∨ k = 54 ∨ k = 55 := by omega
    rcases this with rfl | rfl | rfl | rfl | rfl | rfl | rfl | rfl | rfl
    · left; rfl
    · exact Or.inr (Or.inl ⟨_, _, _, _, rfl, rfl, hm⟩)
    · exact Or.inr (Or.inl ⟨_, _, _, _, rfl, rfl, hr 1⟩)
    · exact Or.inr (Or.inl ⟨_, _, _, _, rfl, rfl, hr 2⟩)
    · exact Or.inr (Or.inl ⟨_, _, _, _, rfl, rfl, hr 3⟩)
    · exact Or.inr (Or.inl ⟨_, _, _, _, rfl, rfl, hr 4⟩)
    · exact Or.inr (Or.inl ⟨_, _, _, _, rfl, rfl, hr 5⟩)
    · exact Or.inr (Or.inl ⟨_, _, _, _, rfl, rfl, hr 6⟩)
    · exact Or.inr (Or.inr ⟨_, _, _, _, rfl, rfl, hc⟩)
theorem cpK_all {f g : Nat → Int32} {n : Nat} : ∀ j, j < n → cpK f g n j = f j := fun j hj => by simp [cpK, hj]
theorem cpK_r {r : Nat → Nat → Int32} {f : Nat → Int32} {k : Nat} (hk : lenR k = 58) : ∀ n j, j < lenR n → va_up r k (cpK f (r k) 58) n j = va_up r k f n j := by
  intro n j hj
  simp only [va_up]
  by_cases h : n = k
  · subst h; rw [if_pos rfl, if_pos rfl]; exact cpK_all j (by omega)
  · rw [if_neg h, if_neg h]
set_option maxHeartbeats 4000000 in
set_option maxRecDepth 100000 in
theorem c_cp_48_50 {l : Launch} {X : Gx} {S : CS} {i m : Nat → Int32} {r : Nat → Nat → Int32} {c : Nat → Int64} : Cv l X yX6_copyAll cX6_copyAll 3 (none) (rmk 0 0) [.ref (ga X 48), .ref (ga X 50)] (hp X S (i, m, r, c)) (fun g => g = hp X S (i, m, va_up r 2 m, c)) := by
  refine ct_v (own := RX6) (lv := [some (.ref (ga X 48)), some (.ref (ga X 50)), none]) (by decide) rfl (Nat.le_of_ble_eq_true rfl) (Nat.le_of_ble_eq_true rfl) rfl (fun C hC hR => ?_)
  have loop : ∀ j, j ≤ 58 → V l X (rmk 0 0) C (hp X S (i, m, va_up r 2 (cpK m (r 2) j), c)) 2 [some (.ref (ga X 48)), some (.ref (ga X 50)), some (.int (nI j))] [] := by
    refine v_up 58 ?_ ?_
    · refine v_iload_n hC rfl dX6_copyAll_2 (q := 3) rfl ?_
      refine v_bipush hC (v := 58) rfl dX6_copyAll_3 (q := 5) rfl ?_
      refine v_icmp_ge hC dX6_copyAll_5 (t := 20) rfl (q := 8) rfl (fun _ => ?_) (fun h => absurd (by decide) h)
      refine v_cong (g := hp X S (i, m, va_up r 2 m, c)) (hp_cg (fun _ _ => rfl) (cpK_r rfl) (fun _ _ => rfl)) ?_
      refine hR _ _ _ ?_ dX6_copyAll_20
      exact rfl
    · intro j hj ih
      refine v_iload_n hC rfl dX6_copyAll_2 (q := 3) rfl ?_
      refine v_bipush hC (v := 58) rfl dX6_copyAll_3 (q := 5) rfl ?_
      refine v_icmp_ge hC dX6_copyAll_5 (t := 20) rfl (q := 8) rfl (fun h => absurd h (nI_ge (b := 58) hj (by decide))) (fun _ => ?_)
      refine v_aload_n hC rfl dX6_copyAll_8 (q := 9) rfl ?_
      refine v_iload_n hC rfl dX6_copyAll_9 (q := 10) rfl ?_
      refine v_aload_n hC rfl dX6_copyAll_10 (q := 11) rfl ?_
      refine v_iload_n hC rfl dX6_copyAll_11 (q := 12) rfl ?_
      refine v_iald hC (k := 48) (by decide) hp_48 (vp_l (ix58 ⟨j, hj⟩)) (nI_clamp (by omega)) dX6_copyAll_12 (q := 13) rfl ?_
      refine v_iast hC (k := 50) (by decide) hp_50 (vp_l (ix58 ⟨j, hj⟩)) (nI_clamp (by omega)) (hpr_2 _) dX6_copyAll_13 (q := 14) rfl ?_
      refine v_iinc_2 hC (v := _ + 1) rfl rfl dX6_copyAll_14 (q := 17) rfl ?_
      refine v_goto hC dX6_copyAll_17 (t := 2) rfl ?_
      refine v_same ?_ ?_ rfl ih
      · try simp only [bx_uu, va_up_self]
        first | exact congrArg (fun z => hp X S (i, m, va_up r 2 z, c)) (cpK_s _ _ _) | (rw [← cpK_s]; simp [va_up])
      · simp [nI_1]
  refine v_iconst hC (v := 0) rfl dX6_copyAll_0 (q := 1) rfl ?_
  refine v_istore_2 hC rfl dX6_copyAll_1 (q := 2) rfl ?_
  refine v_same ?_ rfl rfl (loop 0 (Nat.zero_le _))
  rw [cpK_0]
  try rw [up_id]

set_option maxHeartbeats 4000000 in
set_option maxRecDepth 100000 in
theorem c_cp_48_49 {l : Launch} {X : Gx} {S : CS} {i m : Nat → Int32} {r : Nat → Nat → Int32} {c : Nat → Int64} : Cv l X yX6_copyAll cX6_copyAll 3 (none) (rmk 0 0) [.ref (ga X 48), .ref (ga X 49)] (hp X S (i, m, r, c)) (fun g => g = hp X S (i, m, va_up r 1 m, c)) := by
  refine ct_v (own := RX6) (lv := [some (.ref (ga X 48)), some (.ref (ga X 49)), none]) (by decide) rfl (Nat.le_of_ble_eq_true rfl) (Nat.le_of_ble_eq_true rfl) rfl (fun C hC hR => ?_)
  have loop : ∀ j, j ≤ 58 → V l X (rmk 0 0) C (hp X S (i, m, va_up r 1 (cpK m (r 1) j), c)) 2 [some (.ref (ga X 48)), some (.ref (ga X 49)), some (.int (nI j))] [] := by
    refine v_up 58 ?_ ?_
    · refine v_iload_n hC rfl dX6_copyAll_2 (q := 3) rfl ?_
      refine v_bipush hC (v := 58) rfl dX6_copyAll_3 (q := 5) rfl ?_
      refine v_icmp_ge hC dX6_copyAll_5 (t := 20) rfl (q := 8) rfl (fun _ => ?_) (fun h => absurd (by decide) h)
      refine v_cong (g := hp X S (i, m, va_up r 1 m, c)) (hp_cg (fun _ _ => rfl) (cpK_r rfl) (fun _ _ => rfl)) ?_
      refine hR _ _ _ ?_ dX6_copyAll_20
      exact rfl
    · intro j hj ih
      refine v_iload_n hC rfl dX6_copyAll_2 (q := 3) rfl ?_
      refine v_bipush hC (v := 58) rfl dX6_copyAll_3 (q := 5) rfl ?_
      refine v_icmp_ge hC dX6_copyAll_5 (t := 20) rfl (q := 8) rfl (fun h => absurd h (nI_ge (b := 58) hj (by decide))) (fun _ => ?_)
      refine v_aload_n hC rfl dX6_copyAll_8 (q := 9) rfl ?_
      refine v_iload_n hC rfl dX6_copyAll_9 (q := 10) rfl ?_
      refine v_aload_n hC rfl dX6_copyAll_10 (q := 11) rfl ?_
      refine v_iload_n hC rfl dX6_copyAll_11 (q := 12) rfl ?_
      refine v_iald hC (k := 48) (by decide) hp_48 (vp_l (ix58 ⟨j, hj⟩)) (nI_clamp (by omega)) dX6_copyAll_12 (q := 13) rfl ?_
      refine v_iast hC (k := 49) (by decide) hp_49 (vp_l (ix58 ⟨j, hj⟩)) (nI_clamp (by omega)) (hpr_1 _) dX6_copyAll_13 (q := 14) rfl ?_
      refine v_iinc_2 hC (v := _ + 1) rfl rfl dX6_copyAll_14 (q := 17) rfl ?_
      refine v_goto hC dX6_copyAll_17 (t := 2) rfl ?_
      refine v_same ?_ ?_ rfl ih
      · try simp only [bx_uu, va_up_self]
        first | exact congrArg (fun z => hp X S (i, m, va_up r 1 z, c)) (cpK_s _ _ _) | (rw [← cpK_s]; simp [va_up])
      · simp [nI_1]
  refine v_iconst hC (v := 0) rfl dX6_copyAll_0 (q := 1) rfl ?_
  refine v_istore_2 hC rfl dX6_copyAll_1 (q := 2) rfl ?_
  refine v_same ?_ rfl rfl (loop 0 (Nat.zero_le _))
  rw [cpK_0]
  try rw [up_id]

set_option maxHeartbeats 4000000 in
set_option maxRecDepth 100000 in
theorem c_cp_50_48 {l : Launch} {X : Gx} {S : CS} {i m : Nat → Int32} {r : Nat → Nat → Int32} {c : Nat → Int64} : Cv l X yX6_copyAll cX6_copyAll 3 (none) (rmk 0 0) [.ref (ga X 50), .ref (ga X 48)] (hp X S (i, m, r, c)) (fun g => g = hp X S (i, r 2, r, c)) := by
  refine ct_v (own := RX6) (lv := [some (.ref (ga X 50)), some (.ref (ga X 48)), none]) (by decide) rfl (Nat.le_of_ble_eq_true rfl) (Nat.le_of_ble_eq_true rfl) rfl (fun C hC hR => ?_)
  have loop : ∀ j, j ≤ 58 → V l X (rmk 0 0) C (hp X S (i, (cpK (r 2) m j), r, c)) 2 [some (.ref (ga X 50)), some (.ref (ga X 48)), some (.int (nI j))] [] := by
    refine v_up 58 ?_ ?_
    · refine v_iload_n hC rfl dX6_copyAll_2 (q := 3) rfl ?_
      refine v_bipush hC (v := 58) rfl dX6_copyAll_3 (q := 5) rfl ?_
      refine v_icmp_ge hC dX6_copyAll_5 (t := 20) rfl (q := 8) rfl (fun _ => ?_) (fun h => absurd (by decide) h)
      refine v_cong (g := hp X S (i, r 2, r, c)) (hp_cg cpK_all (fun _ _ _ => rfl) (fun _ _ => rfl)) ?_
      refine hR _ _ _ ?_ dX6_copyAll_20
      exact rfl
    · intro j hj ih
      refine v_iload_n hC rfl dX6_copyAll_2 (q := 3) rfl ?_
      refine v_bipush hC (v := 58) rfl dX6_copyAll_3 (q := 5) rfl ?_
      refine v_icmp_ge hC dX6_copyAll_5 (t := 20) rfl (q := 8) rfl (fun h => absurd h (nI_ge (b := 58) hj (by decide))) (fun _ => ?_)
      refine v_aload_n hC rfl dX6_copyAll_8 (q := 9) rfl ?_
      refine v_iload_n hC rfl dX6_copyAll_9 (q := 10) rfl ?_
      refine v_aload_n hC rfl dX6_copyAll_10 (q := 11) rfl ?_
      refine v_iload_n hC rfl dX6_copyAll_11 (q := 12) rfl ?_
      refine v_iald hC (k := 50) (by decide) hp_50 (vp_l (ix58 ⟨j, hj⟩)) (nI_clamp (by omega)) dX6_copyAll_12 (q := 13) rfl ?_
      refine v_iast hC (k := 48) (by decide) hp_48 (vp_l (ix58 ⟨j, hj⟩)) (nI_clamp (by omega)) (hpr_0 _) dX6_copyAll_13 (q := 14) rfl ?_
      refine v_iinc_2 hC (v := _ + 1) rfl rfl dX6_copyAll_14 (q := 17) rfl ?_
      refine v_goto hC dX6_copyAll_17 (t := 2) rfl ?_
      refine v_same ?_ ?_ rfl ih
      · try simp only [bx_uu, va_up_self]
        first | exact congrArg (fun z => hp X S (i, z, r, c)) (cpK_s _ _ _) | (rw [← cpK_s]; simp [va_up])
      · simp [nI_1]
  refine v_iconst hC (v := 0) rfl dX6_copyAll_0 (q := 1) rfl ?_
  refine v_istore_2 hC rfl dX6_copyAll_1 (q := 2) rfl ?_
  refine v_same ?_ rfl rfl (loop 0 (Nat.zero_le _))
  rw [cpK_0]
  try rw [up_id]

set_option maxHeartbeats 4000000 in
set_option maxRecDepth 100000 in
theorem c_cp_49_48 {l : Launch} {X : Gx} {S : CS} {i m : Nat → Int32} {r : Nat → Nat → Int32} {c : Nat → Int64} : Cv l X yX6_copyAll cX6_copyAll 3 (none) (rmk 0 0) [.ref (ga X 49), .ref (ga X 48)] (hp X S (i, m, r, c)) (fun g => g = hp X S (i, r 1, r, c)) := by
  refine ct_v (own := RX6) (lv := [some (.ref (ga X 49)), some (.ref (ga X 48)), none]) (by decide) rfl (Nat.le_of_ble_eq_true rfl) (Nat.le_of_ble_eq_true rfl) rfl (fun C hC hR => ?_)
  have loop : ∀ j, j ≤ 58 → V l X (rmk 0 0) C (hp X S (i, (cpK (r 1) m j), r, c)) 2 [some (.ref (ga X 49)), some (.ref (ga X 48)), some (.int (nI j))] [] := by
    refine v_up 58 ?_ ?_
    · refine v_iload_n hC rfl dX6_copyAll_2 (q := 3) rfl ?_
      refine v_bipush hC (v := 58) rfl dX6_copyAll_3 (q := 5) rfl ?_
      refine v_icmp_ge hC dX6_copyAll_5 (t := 20) rfl (q := 8) rfl (fun _ => ?_) (fun h => absurd (by decide) h)
      refine v_cong (g := hp X S (i, r 1, r, c)) (hp_cg cpK_all (fun _ _ _ => rfl) (fun _ _ => rfl)) ?_
      refine hR _ _ _ ?_ dX6_copyAll_20
      exact rfl
    · intro j hj ih
      refine v_iload_n hC rfl dX6_copyAll_2 (q := 3) rfl ?_
      refine v_bipush hC (v := 58) rfl dX6_copyAll_3 (q := 5) rfl ?_
      refine v_icmp_ge hC dX6_copyAll_5 (t := 20) rfl (q := 8) rfl (fun h => absurd h (nI_ge (b := 58) hj (by decide))) (fun _ => ?_)
      refine v_aload_n hC rfl dX6_copyAll_8 (q := 9) rfl ?_
      refine v_iload_n hC rfl dX6_copyAll_9 (q := 10) rfl ?_
      refine v_aload_n hC rfl dX6_copyAll_10 (q := 11) rfl ?_
      refine v_iload_n hC rfl dX6_copyAll_11 (q := 12) rfl ?_
      refine v_iald hC (k := 49) (by decide) hp_49 (vp_l (ix58 ⟨j, hj⟩)) (nI_clamp (by omega)) dX6_copyAll_12 (q := 13) rfl ?_
      refine v_iast hC (k := 48) (by decide) hp_48 (vp_l (ix58 ⟨j, hj⟩)) (nI_clamp (by omega)) (hpr_0 _) dX6_copyAll_13 (q := 14) rfl ?_
      refine v_iinc_2 hC (v := _ + 1) rfl rfl dX6_copyAll_14 (q := 17) rfl ?_
      refine v_goto hC dX6_copyAll_17 (t := 2) rfl ?_
      refine v_same ?_ ?_ rfl ih
      · try simp only [bx_uu, va_up_self]
        first | exact congrArg (fun z => hp X S (i, z, r, c)) (cpK_s _ _ _) | (rw [← cpK_s]; simp [va_up])
      · simp [nI_1]
  refine v_iconst hC (v := 0) rfl dX6_copyAll_0 (q := 1) rfl ?_
  refine v_istore_2 hC rfl dX6_copyAll_1 (q := 2) rfl ?_
  refine v_same ?_ rfl rfl (loop 0 (Nat.zero_le _))
  rw [cpK_0]
  try rw [up_id]

set_option maxHeartbeats 4000000 in
set_option maxRecDepth 100000 in
theorem c_X6_thinks {l : Launch} {X : Gx} {S : CS} {i m : Nat → Int32} {r : Nat → Nat → Int32} {c : Nat → Int64} : Cv l X yX6_thinks cX6_thinks 1 (none) (rmk 1 22) [.ref (ga X 47)] (hp X S (i, m, r, c)) (fun g => g = hp X S (i, m, va_up r 2 m, c)) := by
  refine ct_v (own := RX6) (lv := [some (.ref (ga X 47))]) (by decide) rfl (Nat.le_of_ble_eq_true rfl) (Nat.le_of_ble_eq_true rfl) rfl (fun C hC hR => ?_)
  refine v_aload_n hC rfl dX6_thinks_0 (q := 1) rfl ?_
  refine v_get hC fl_X6_9 (k := 47) (by decide) hp_47 rfl dX6_thinks_1 (q := 4) rfl ?_
  refine v_aload_n hC rfl dX6_thinks_4 (q := 5) rfl ?_
  refine v_get hC fl_X6_16 (k := 47) (by decide) hp_47 rfl dX6_thinks_5 (q := 8) rfl ?_
  refine v_Sv hC lkS_X6_119 c_cp_48_50 rfl (by decide) rfl (Nat.le_of_ble_eq_true rfl) dX6_thinks_8 (q := 11) rfl ?_
  rintro _ rfl
  refine hR _ _ _ ?_ dX6_thinks_11
  rfl

set_option maxHeartbeats 4000000 in
set_option maxRecDepth 100000 in
theorem c_X6_putsBack {l : Launch} {X : Gx} {S : CS} {i m : Nat → Int32} {r : Nat → Nat → Int32} {c : Nat → Int64} : Cv l X yX6_putsBack cX6_putsBack 1 (none) (rmk 1 22) [.ref (ga X 47)] (hp X S (i, m, r, c)) (fun g => g = hp X S (i, r 2, r, c)) := by
  refine ct_v (own := RX6) (lv := [some (.ref (ga X 47))]) (by decide) rfl (Nat.le_of_ble_eq_true rfl) (Nat.le_of_ble_eq_true rfl) rfl (fun C hC hR => ?_)
  refine v_aload_n hC rfl dX6_putsBack_0 (q := 1) rfl ?_
  refine v_get hC fl_X6_16 (k := 47) (by decide) hp_47 rfl dX6_putsBack_1 (q := 4) rfl ?_
  refine v_aload_n hC rfl dX6_putsBack_4 (q := 5) rfl ?_
  refine v_get hC fl_X6_9 (k := 47) (by decide) hp_47 rfl dX6_putsBack_5 (q := 8) rfl ?_
  refine v_Sv hC lkS_X6_119 c_cp_50_48 rfl (by decide) rfl (Nat.le_of_ble_eq_true rfl) dX6_putsBack_8 (q := 11) rfl ?_
  rintro _ rfl
  refine hR _ _ _ ?_ dX6_putsBack_11
  rfl
