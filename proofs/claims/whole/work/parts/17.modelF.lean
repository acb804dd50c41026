set_option maxHeartbeats 4000000 in
set_option maxRecDepth 100000 in
theorem c_X6_areSeen {l : Launch} {X : Gx} {S : CS} {i m : Nat → Int32} {r : Nat → Nat → Int32} {c : Nat → Int64} {n : Nat} (hN : m 1 = nI n) (h8 : n ≤ 8) {up : Int32} : Ci l X yX6_areSeen cX6_areSeen 3 (some .boolean) (rmk 4 94) [.ref (ga X 47), .int up] (hp X S (i, m, r, c)) (fun z g => (seenF (upG (pv m) up) n n = allI n ∧ z = 1 ∨ ¬ seenF (upG (pv m) up) n n = allI n ∧ z = 0) ∧ g = hp X S (i, r 2, r, c)) := by
  refine ct_z (own := RX6) (lv := [some (.ref (ga X 47)), some (.int up), none]) (by decide) rfl (Nat.le_of_ble_eq_true rfl) (Nat.le_of_ble_eq_true rfl) rfl (fun C hC hR => ?_)
  have e1 : ∀ j, upM m up j 1 = nI n := fun j => (upM_1 j).trans hN
  have loop : ∀ j, j ≤ n → V l X (rmk 4 94) C (hp X S (i, upM m up j, r, c)) 2 [some (.ref (ga X 47)), some (.int up), some (.int (nI j))] [] := by
    refine v_up n ?_ ?_
    · refine v_iload_n hC rfl dX6_areSeen_2 (q := 3) rfl ?_
      refine v_aload_n hC rfl dX6_areSeen_3 (q := 4) rfl ?_
      refine v_get hC fl_X6_9 (k := 47) (by decide) hp_47 rfl dX6_areSeen_4 (q := 7) rfl ?_
      refine v_iconst hC (v := 1) rfl dX6_areSeen_7 (q := 8) rfl ?_
      refine v_iald hC (k := 48) (by decide) hp_48 (vp_l (by decide)) (j := 1) rfl dX6_areSeen_8 (q := 9) rfl ?_
      refine v_icmp_ge hC dX6_areSeen_9 (t := 43) rfl (q := 12) rfl (fun _ => ?_) (fun h => absurd (by rw [e1]; exact Int32.le_refl _) h)
      refine v_aload_n hC rfl dX6_areSeen_43 (q := 44) rfl ?_
      refine v_Vi hC lkV_X6_115 (c_X6_seen (e1 n) h8) rfl (by decide) (k := 47) (by decide) hp_47 rfl rfl (Nat.le_of_ble_eq_true rfl) dX6_areSeen_44 (q := 47) rfl ?_
      rintro _ _ ⟨rfl, rfl⟩
      refine v_iconst hC (v := 1) rfl dX6_areSeen_47 (q := 48) rfl ?_
      refine v_aload_n hC rfl dX6_areSeen_48 (q := 49) rfl ?_
      refine v_get hC fl_X6_9 (k := 47) (by decide) hp_47 rfl dX6_areSeen_49 (q := 52) rfl ?_
      refine v_iconst hC (v := 1) rfl dX6_areSeen_52 (q := 53) rfl ?_
      refine v_iald hC (k := 48) (by decide) hp_48 (vp_l (by decide)) (j := 1) rfl dX6_areSeen_53 (q := 54) rfl ?_
      refine v_ishl hC dX6_areSeen_54 (q := 55) rfl ?_
      refine v_iconst hC (v := 1) rfl dX6_areSeen_55 (q := 56) rfl ?_
      refine v_isub hC dX6_areSeen_56 (q := 57) rfl ?_
      refine v_icmp_ne hC dX6_areSeen_57 (t := 64) rfl (q := 60) rfl (fun h57 => ?_) (fun h57 => ?_)
      · refine v_iconst hC (v := 0) rfl dX6_areSeen_64 (q := 65) rfl ?_
        refine v_istore_2 hC rfl dX6_areSeen_65 (q := 66) rfl ?_
        refine v_aload_n hC rfl dX6_areSeen_66 (q := 67) rfl ?_
        refine v_Vv hC lkV_X6_126 c_X6_putsBack rfl (by decide) (k := 47) (by decide) hp_47 rfl rfl (Nat.le_of_ble_eq_true rfl) dX6_areSeen_67 (q := 70) rfl ?_
        rintro _ rfl
        refine v_iload_n hC rfl dX6_areSeen_70 (q := 71) rfl ?_
        refine hR _ _ _ _ ?_ (by first | rfl | decide | assumption) dX6_areSeen_71
        refine ⟨Or.inr ⟨?_, rfl⟩, rfl⟩
        have := h57
        rw [e1, seenF_congr (g' := upG (pv m) up) n (fun q hq => pv_upMn hq)] at this
        exact this
      · refine v_iconst hC (v := 1) rfl dX6_areSeen_60 (q := 61) rfl ?_
        refine v_goto hC dX6_areSeen_61 (t := 65) rfl ?_
        refine v_istore_2 hC rfl dX6_areSeen_65 (q := 66) rfl ?_
        refine v_aload_n hC rfl dX6_areSeen_66 (q := 67) rfl ?_
        refine v_Vv hC lkV_X6_126 c_X6_putsBack rfl (by decide) (k := 47) (by decide) hp_47 rfl rfl (Nat.le_of_ble_eq_true rfl) dX6_areSeen_67 (q := 70) rfl ?_
        rintro _ rfl
        refine v_iload_n hC rfl dX6_areSeen_70 (q := 71) rfl ?_
        refine hR _ _ _ _ ?_ (by first | rfl | decide | assumption) dX6_areSeen_71
        refine ⟨Or.inl ⟨?_, rfl⟩, rfl⟩
        have := h57
        rw [e1, seenF_congr (g' := upG (pv m) up) n (fun q hq => pv_upMn hq)] at this
        exact this
    · intro j hj ih
      have hj8 : j < 8 := by omega
      refine v_iload_n hC rfl dX6_areSeen_2 (q := 3) rfl ?_
      refine v_aload_n hC rfl dX6_areSeen_3 (q := 4) rfl ?_
      refine v_get hC fl_X6_9 (k := 47) (by decide) hp_47 rfl dX6_areSeen_4 (q := 7) rfl ?_
      refine v_iconst hC (v := 1) rfl dX6_areSeen_7 (q := 8) rfl ?_
      refine v_iald hC (k := 48) (by decide) hp_48 (vp_l (by decide)) (j := 1) rfl dX6_areSeen_8 (q := 9) rfl ?_
      refine v_icmp_ge hC dX6_areSeen_9 (t := 43) rfl (q := 12) rfl (fun h => absurd h (by rw [e1]; exact nI_ge hj (by omega))) (fun _ => ?_)
      refine v_aload_n hC rfl dX6_areSeen_12 (q := 13) rfl ?_
      refine v_iload_n hC rfl dX6_areSeen_13 (q := 14) rfl ?_
      refine v_iconst hC (v := 3) rfl dX6_areSeen_14 (q := 15) rfl ?_
      refine v_iload_n hC rfl dX6_areSeen_15 (q := 16) rfl ?_
      refine v_iload_n hC rfl dX6_areSeen_16 (q := 17) rfl ?_
      refine v_ishr hC dX6_areSeen_17 (q := 18) rfl ?_
      refine v_iconst hC (v := 1) rfl dX6_areSeen_18 (q := 19) rfl ?_
      refine v_iand hC dX6_areSeen_19 (q := 20) rfl ?_
      refine v_iconst hC (v := 1) rfl dX6_areSeen_20 (q := 21) rfl ?_
      refine v_icmp_ne hC dX6_areSeen_21 (t := 28) rfl (q := 24) rfl (fun h21 => ?_) (fun h21 => ?_)
      · refine v_aload_n hC rfl dX6_areSeen_28 (q := 29) rfl ?_
        refine v_iload_n hC rfl dX6_areSeen_29 (q := 30) rfl ?_
        refine v_iconst hC (v := 3) rfl dX6_areSeen_30 (q := 31) rfl ?_
        refine v_Vi hC lkV_X6_49 (c_X6_it (w := 3) (by first | assumption | omega) (Nat.le_of_ble_eq_true rfl)) rfl (by decide) (k := 47) (by decide) hp_47 rfl rfl (Nat.le_of_ble_eq_true rfl) dX6_areSeen_31 (q := 34) rfl ?_
        rintro _ _ ⟨rfl, rfl⟩
        refine v_Vv hC lkV_X6_63 (c_X6_put (w := 3) (by first | assumption | omega) (Nat.le_of_ble_eq_true rfl)) rfl (by decide) (k := 47) (by decide) hp_47 rfl rfl (Nat.le_of_ble_eq_true rfl) dX6_areSeen_34 (q := 37) rfl ?_
        rintro _ rfl
        refine v_iinc_2 hC (v := _ + 1) rfl rfl dX6_areSeen_37 (q := 40) rfl ?_
        refine v_goto hC dX6_areSeen_40 (t := 2) rfl ?_
        refine v_same ?_ ?_ rfl ih
        · rw [upM, if_neg (by simpa [bitU] using h21)]
        · simp [nI_1]
      · refine v_iconst hC (v := 1) rfl dX6_areSeen_24 (q := 25) rfl ?_
        refine v_goto hC dX6_areSeen_25 (t := 34) rfl ?_
        refine v_Vv hC lkV_X6_63 (c_X6_put (w := 3) (by first | assumption | omega) (Nat.le_of_ble_eq_true rfl)) rfl (by decide) (k := 47) (by decide) hp_47 rfl rfl (Nat.le_of_ble_eq_true rfl) dX6_areSeen_34 (q := 37) rfl ?_
        rintro _ rfl
        refine v_iinc_2 hC (v := _ + 1) rfl rfl dX6_areSeen_37 (q := 40) rfl ?_
        refine v_goto hC dX6_areSeen_40 (t := 2) rfl ?_
        refine v_same ?_ ?_ rfl ih
        · rw [upM, if_pos (by simpa [bitU] using h21)]
        · simp [nI_1]
  refine v_iconst hC (v := 0) rfl dX6_areSeen_0 (q := 1) rfl ?_
  refine v_istore_2 hC rfl dX6_areSeen_1 (q := 2) rfl ?_
  exact loop 0 (Nat.zero_le _)

set_option maxHeartbeats 4000000 in
set_option maxRecDepth 100000 in
theorem c_X6_bits {l : Launch} {X : Gx} {f : Hp} {s : Nat} (h1 : s < 256) : Ci l X yX6_bits cX6_bits 3 (some .int) (rmk 0 0) [.int (nI s)] (f) (fun z g => z = nI (pcN s) ∧ g = f) := by
  refine ct_i (own := RX6) (lv := [some (.int (nI s)), none, none]) (by decide) rfl (Nat.le_of_ble_eq_true rfl) (Nat.le_of_ble_eq_true rfl) rfl (fun C hC hR => ?_)
  have key : ∀ N t c, t ≤ N → t < 256 → c + pcN t = pcN s → V l X (rmk 0 0) C f 4 [some (.int (nI s)), some (.int (nI c)), some (.int (nI t))] [] := by
    intro N
    induction N with
    | zero =>
      intro t c ht _ hc
      have : t = 0 := by omega
      subst this
      refine v_iload_n hC rfl dX6_bits_4 (q := 5) rfl ?_
      refine v_if_eq hC dX6_bits_5 (t := 20) rfl (q := 8) rfl (fun _ => ?_) (fun h => absurd rfl h)
      refine v_iload_n hC rfl dX6_bits_20 (q := 21) rfl ?_
      refine hR _ _ _ _ ?_ dX6_bits_21
      refine ⟨?_, rfl⟩
      have : pcN 0 = 0 := rfl
      rw [← hc, this, Nat.add_zero]
    | succ N ih =>
      intro t c ht h256 hc
      refine v_iload_n hC rfl dX6_bits_4 (q := 5) rfl ?_
      refine v_if_eq hC dX6_bits_5 (t := 20) rfl (q := 8) rfl (fun h5 => ?_) (fun h5 => ?_)
      · refine v_iload_n hC rfl dX6_bits_20 (q := 21) rfl ?_
        refine hR _ _ _ _ ?_ dX6_bits_21
        refine ⟨?_, rfl⟩
        have ht0 : t = 0 := (nI_eq (b := 0) (by omega) (by decide)).mp h5
        subst ht0
        have : pcN 0 = 0 := rfl
        rw [← hc, this, Nat.add_zero]
      · have ht0 : t ≠ 0 := fun z => h5 (by rw [z]; rfl)
        have hra := rest_and ⟨t, h256⟩
        refine v_iinc_1 hC (v := _ + 1) rfl rfl dX6_bits_8 (q := 11) rfl ?_
        refine v_iload_n hC rfl dX6_bits_11 (q := 12) rfl ?_
        refine v_iload_n hC rfl dX6_bits_12 (q := 13) rfl ?_
        refine v_iconst hC (v := 1) rfl dX6_bits_13 (q := 14) rfl ?_
        refine v_isub hC dX6_bits_14 (q := 15) rfl ?_
        refine v_iand hC dX6_bits_15 (q := 16) rfl ?_
        refine v_istore_2 hC rfl dX6_bits_16 (q := 17) rfl ?_
        rw [hra.1]
        refine v_goto hC dX6_bits_17 (t := 4) rfl ?_
        have g1 := (hra.2 ht0).1
        have g2 := (hra.2 ht0).2
        dsimp only at g1 g2
        refine v_same rfl ?_ rfl (ih (t &&& (t - 1)) (c + 1) (by omega) (by omega) (by omega))
        simp [nI_1]
  refine v_iconst hC (v := 0) rfl dX6_bits_0 (q := 1) rfl ?_
  refine v_istore_1 hC rfl dX6_bits_1 (q := 2) rfl ?_
  refine v_iload_n hC rfl dX6_bits_2 (q := 3) rfl ?_
  refine v_istore_2 hC rfl dX6_bits_3 (q := 4) rfl ?_
  exact key s s 0 (Nat.le_refl _) h1 (Nat.zero_add _)

set_option maxHeartbeats 4000000 in
set_option maxRecDepth 100000 in
theorem c_X6_push {l : Launch} {X : Gx} {S : CS} {i m : Nat → Int32} {r : Nat → Nat → Int32} {c : Nat → Int64} {n : Nat} (hN : m 1 = nI n) (h8 : n ≤ 8)  : Ci l X yX6_push cX6_push 4 (some .int) (rmk 5 116) [.ref (ga X 47)] (hp X S (i, m, r, c)) (fun z g => z = ansI (S_push n (pv m)) ∧ ∃ W, g = hp X S (i, m, fnR (va_up r 2 W) (S_push n (pv m)), c)) := by
  refine ct_i (own := RX6) (lv := [some (.ref (ga X 47)), none, none, none]) (by decide) rfl (Nat.le_of_ble_eq_true rfl) (Nat.le_of_ble_eq_true rfl) rfl (fun C hC hR => ?_)
  have e2 : (1 : Int32) <<< (m 1 &&& 31) = nI (2 ^ n) := by rw [hN]; exact sh1 ⟨n, by omega⟩
  have h256 := pw8 h8
  have hb : ∀ q, pshF (okP n (pv m)) (2 ^ n) = some q → q < 1000 := fun q h => by have := pshF_lt _ _ h; omega
  have big : 1 < n → V l X (rmk 5 116) C (hp X S (i, m, va_up r 2 m, c)) 8 [some (.ref (ga X 47)), some (.int (-1)), some (.int (nI 0)), none] [] := by
    intro h1
    have loop : ∀ j, j ≤ 2 ^ n → V l X (rmk 5 116) C (hp X S (i, m, va_up r 2 m, c)) 8 [some (.ref (ga X 47)), some (.int (m1N (pshF (okP n (pv m)) j))), some (.int (nI j)), none] [] := by
      refine v_up (2 ^ n) ?_ ?_
      · refine v_iload_n hC rfl dX6_push_8 (q := 9) rfl ?_
        refine v_iconst hC (v := 1) rfl dX6_push_9 (q := 10) rfl ?_
        refine v_aload_n hC rfl dX6_push_10 (q := 11) rfl ?_
        refine v_get hC fl_X6_9 (k := 47) (by decide) hp_47 rfl dX6_push_11 (q := 14) rfl ?_
        refine v_iconst hC (v := 1) rfl dX6_push_14 (q := 15) rfl ?_
        refine v_iald hC (k := 48) (by decide) hp_48 (vp_l (by decide)) (j := 1) rfl dX6_push_15 (q := 16) rfl ?_
        refine v_ishl hC dX6_push_16 (q := 17) rfl ?_
        refine v_icmp_ge hC dX6_push_17 (t := 75) rfl (q := 20) rfl (fun _ => ?_) (fun h => absurd (by rw [e2]; exact Int32.le_refl _) h)
        refine v_aload_n hC rfl dX6_push_75 (q := 76) rfl ?_
        refine v_iload_n hC rfl dX6_push_76 (q := 77) rfl ?_
        refine v_Vi hC lkV_X6_132 (c_X6_orNone hb) rfl (by decide) (k := 47) (by decide) hp_47 rfl rfl (Nat.le_of_ble_eq_true rfl) dX6_push_77 (q := 80) rfl ?_
        rintro _ _ ⟨rfl, rfl⟩
        refine hR _ _ _ _ ?_ dX6_push_80
        exact ⟨by simp only [S_push, if_pos h1], m, by simp only [S_push, if_pos h1]⟩
      · intro j hj ih
        rw [pshF] at ih
        cases eb : pshF (okP n (pv m)) j with
        | none =>
          rw [eb] at ih
          dsimp only at ih
          refine v_iload_n hC rfl dX6_push_8 (q := 9) rfl ?_
          refine v_iconst hC (v := 1) rfl dX6_push_9 (q := 10) rfl ?_
          refine v_aload_n hC rfl dX6_push_10 (q := 11) rfl ?_
          refine v_get hC fl_X6_9 (k := 47) (by decide) hp_47 rfl dX6_push_11 (q := 14) rfl ?_
          refine v_iconst hC (v := 1) rfl dX6_push_14 (q := 15) rfl ?_
          refine v_iald hC (k := 48) (by decide) hp_48 (vp_l (by decide)) (j := 1) rfl dX6_push_15 (q := 16) rfl ?_
          refine v_ishl hC dX6_push_16 (q := 17) rfl ?_
          refine v_icmp_ge hC dX6_push_17 (t := 75) rfl (q := 20) rfl (fun h => absurd h (by rw [e2]; exact nI_ge hj (by omega))) (fun _ => ?_)
          refine v_aload_n hC rfl dX6_push_20 (q := 21) rfl ?_
          refine v_get hC fl_X6_9 (k := 47) (by decide) hp_47 rfl dX6_push_21 (q := 24) rfl ?_
          refine v_iconst hC (v := 1) rfl dX6_push_24 (q := 25) rfl ?_
          refine v_iald hC (k := 48) (by decide) hp_48 (vp_l (by decide)) (j := 1) rfl dX6_push_25 (q := 26) rfl ?_
          refine v_iconst hC (v := 1) rfl dX6_push_26 (q := 27) rfl ?_
          refine v_icmp_le hC dX6_push_27 (t := 75) rfl (q := 30) rfl (fun h => absurd h (by rw [hN]; exact nI_ge (a := 1) h1 (by omega))) (fun _ => ?_)
          refine v_iload_n hC rfl dX6_push_30 (q := 31) rfl ?_
          refine v_if_lt hC dX6_push_31 (t := 45) rfl (q := 34) rfl (fun _ => ?_) (fun h => absurd (by decide) h)
          refine v_iconst hC (v := 1) rfl dX6_push_45 (q := 46) rfl ?_
          refine v_goto hC dX6_push_46 (t := 50) rfl ?_
          refine v_istore_3 hC rfl dX6_push_50 (q := 51) rfl ?_
          refine v_iload_n hC rfl dX6_push_51 (q := 52) rfl ?_
          refine v_if_eq hC dX6_push_52 (t := 67) rfl (q := 55) rfl (fun h => absurd h (by decide)) (fun _ => ?_)
          refine v_aload_n hC rfl dX6_push_55 (q := 56) rfl ?_
          refine v_iload_n hC rfl dX6_push_56 (q := 57) rfl ?_
          refine v_Vi hC lkV_X6_144 (c_X6_areSeen (i := i) (r := va_up r 2 m) hN h8) rfl (by decide) (k := 47) (by decide) hp_47 rfl rfl (Nat.le_of_ble_eq_true rfl) dX6_push_57 (q := 60) rfl ?_
          rintro _ _ ⟨⟨hc57, rfl⟩ | ⟨hc57, rfl⟩, rfl⟩
          · refine v_if_eq hC dX6_push_60 (t := 67) rfl (q := 63) rfl (fun h => absurd h (by decide)) (fun _ => ?_)
            refine v_iload_n hC rfl dX6_push_63 (q := 64) rfl ?_
            refine v_goto hC dX6_push_64 (t := 68) rfl ?_
            refine v_istore_1 hC rfl dX6_push_68 (q := 69) rfl ?_
            refine v_iinc_2 hC (v := _ + 1) rfl rfl dX6_push_69 (q := 72) rfl ?_
            refine v_goto hC dX6_push_72 (t := 8) rfl ?_
            refine v_weak (lv' := [some (.ref (ga X 47)), some (.int (nI j)), some (.int (nI j + 1)), none]) ⟨rfl, rfl, rfl, trivial⟩ ?_
            refine v_same ?_ ?_ rfl ih
            · simp [va_up_self]
            · rw [if_pos (by simpa [okP] using hc57)]; simp [nI_1, m1N]
          · refine v_if_eq hC dX6_push_60 (t := 67) rfl (q := 63) rfl (fun _ => ?_) (fun h => absurd h (by decide))
            refine v_iload_n hC rfl dX6_push_67 (q := 68) rfl ?_
            refine v_istore_1 hC rfl dX6_push_68 (q := 69) rfl ?_
            refine v_iinc_2 hC (v := _ + 1) rfl rfl dX6_push_69 (q := 72) rfl ?_
            refine v_goto hC dX6_push_72 (t := 8) rfl ?_
            refine v_weak (lv' := [some (.ref (ga X 47)), some (.int (-1)), some (.int (nI j + 1)), none]) ⟨rfl, rfl, rfl, trivial⟩ ?_
            refine v_same ?_ ?_ rfl ih
            · simp [va_up_self]
            · rw [if_neg (by simpa [okP] using hc57)]; simp [nI_1, m1N]
        | some q =>
          rw [eb] at ih
          dsimp only at ih
          have hq : q < j := pshF_lt _ _ eb
          have pj := pcN_le ⟨j, by omega⟩
          have pq := pcN_le ⟨q, by omega⟩
          dsimp only at pj pq
          refine v_iload_n hC rfl dX6_push_8 (q := 9) rfl ?_
          refine v_iconst hC (v := 1) rfl dX6_push_9 (q := 10) rfl ?_
          refine v_aload_n hC rfl dX6_push_10 (q := 11) rfl ?_
          refine v_get hC fl_X6_9 (k := 47) (by decide) hp_47 rfl dX6_push_11 (q := 14) rfl ?_
          refine v_iconst hC (v := 1) rfl dX6_push_14 (q := 15) rfl ?_
          refine v_iald hC (k := 48) (by decide) hp_48 (vp_l (by decide)) (j := 1) rfl dX6_push_15 (q := 16) rfl ?_
          refine v_ishl hC dX6_push_16 (q := 17) rfl ?_
          refine v_icmp_ge hC dX6_push_17 (t := 75) rfl (q := 20) rfl (fun h => absurd h (by rw [e2]; exact nI_ge hj (by omega))) (fun _ => ?_)
          refine v_aload_n hC rfl dX6_push_20 (q := 21) rfl ?_
          refine v_get hC fl_X6_9 (k := 47) (by decide) hp_47 rfl dX6_push_21 (q := 24) rfl ?_
          refine v_iconst hC (v := 1) rfl dX6_push_24 (q := 25) rfl ?_
          refine v_iald hC (k := 48) (by decide) hp_48 (vp_l (by decide)) (j := 1) rfl dX6_push_25 (q := 26) rfl ?_
          refine v_iconst hC (v := 1) rfl dX6_push_26 (q := 27) rfl ?_
          refine v_icmp_le hC dX6_push_27 (t := 75) rfl (q := 30) rfl (fun h => absurd h (by rw [hN]; exact nI_ge (a := 1) h1 (by omega))) (fun _ => ?_)
          refine v_iload_n hC rfl dX6_push_30 (q := 31) rfl ?_
          refine v_if_lt hC dX6_push_31 (t := 45) rfl (q := 34) rfl (fun h => absurd h (nI_pos (by omega))) (fun _ => ?_)
          refine v_iload_n hC rfl dX6_push_34 (q := 35) rfl ?_
          refine v_Si hC lkS_X6_141 (c_X6_bits (by omega)) rfl (by decide) rfl (Nat.le_of_ble_eq_true rfl) dX6_push_35 (q := 38) rfl ?_
          rintro _ _ ⟨rfl, rfl⟩
          refine v_iload_n hC rfl dX6_push_38 (q := 39) rfl ?_
          refine v_Si hC lkS_X6_141 (c_X6_bits (by omega)) rfl (by decide) rfl (Nat.le_of_ble_eq_true rfl) dX6_push_39 (q := 42) rfl ?_
          rintro _ _ ⟨rfl, rfl⟩
          refine v_icmp_ge hC dX6_push_42 (t := 49) rfl (q := 45) rfl (fun h42 => ?_) (fun h42 => ?_)
          · refine v_iconst hC (v := 0) rfl dX6_push_49 (q := 50) rfl ?_
            refine v_istore_3 hC rfl dX6_push_50 (q := 51) rfl ?_
            refine v_iload_n hC rfl dX6_push_51 (q := 52) rfl ?_
            refine v_if_eq hC dX6_push_52 (t := 67) rfl (q := 55) rfl (fun _ => ?_) (fun h => absurd h (by decide))
            refine v_iload_n hC rfl dX6_push_67 (q := 68) rfl ?_
            refine v_istore_1 hC rfl dX6_push_68 (q := 69) rfl ?_
            refine v_iinc_2 hC (v := _ + 1) rfl rfl dX6_push_69 (q := 72) rfl ?_
            refine v_goto hC dX6_push_72 (t := 8) rfl ?_
            refine v_weak (lv' := [some (.ref (ga X 47)), some (.int (nI q)), some (.int (nI j + 1)), none]) ⟨rfl, rfl, rfl, trivial⟩ ?_
            refine v_same ?_ ?_ rfl ih
            · simp [va_up_self]
            · rw [if_neg (by simp only [okP, Bool.and_eq_true, decide_eq_true_eq]; exact fun z => Int32.not_lt.mpr h42 ((nI_ltI (by omega) (by omega)).mpr z.1))]; simp [nI_1, m1N]
          · refine v_iconst hC (v := 1) rfl dX6_push_45 (q := 46) rfl ?_
            refine v_goto hC dX6_push_46 (t := 50) rfl ?_
            refine v_istore_3 hC rfl dX6_push_50 (q := 51) rfl ?_
            refine v_iload_n hC rfl dX6_push_51 (q := 52) rfl ?_
            refine v_if_eq hC dX6_push_52 (t := 67) rfl (q := 55) rfl (fun h => absurd h (by decide)) (fun _ => ?_)
            refine v_aload_n hC rfl dX6_push_55 (q := 56) rfl ?_
            refine v_iload_n hC rfl dX6_push_56 (q := 57) rfl ?_
            refine v_Vi hC lkV_X6_144 (c_X6_areSeen (i := i) (r := va_up r 2 m) hN h8) rfl (by decide) (k := 47) (by decide) hp_47 rfl rfl (Nat.le_of_ble_eq_true rfl) dX6_push_57 (q := 60) rfl ?_
            rintro _ _ ⟨⟨hc57, rfl⟩ | ⟨hc57, rfl⟩, rfl⟩
            · refine v_if_eq hC dX6_push_60 (t := 67) rfl (q := 63) rfl (fun h => absurd h (by decide)) (fun _ => ?_)
              refine v_iload_n hC rfl dX6_push_63 (q := 64) rfl ?_
              refine v_goto hC dX6_push_64 (t := 68) rfl ?_
              refine v_istore_1 hC rfl dX6_push_68 (q := 69) rfl ?_
              refine v_iinc_2 hC (v := _ + 1) rfl rfl dX6_push_69 (q := 72) rfl ?_
              refine v_goto hC dX6_push_72 (t := 8) rfl ?_
              refine v_weak (lv' := [some (.ref (ga X 47)), some (.int (nI j)), some (.int (nI j + 1)), none]) ⟨rfl, rfl, rfl, trivial⟩ ?_
              refine v_same ?_ ?_ rfl ih
              · simp [va_up_self]
              · rw [if_pos (by simp only [okP, Bool.and_eq_true, decide_eq_true_eq]; exact ⟨(nI_ltI (by omega) (by omega)).mp (Int32.not_le.mp h42), hc57⟩)]; simp [nI_1, m1N]
            · refine v_if_eq hC dX6_push_60 (t := 67) rfl (q := 63) rfl (fun _ => ?_) (fun h => absurd h (by decide))
              refine v_iload_n hC rfl dX6_push_67 (q := 68) rfl ?_
              refine v_istore_1 hC rfl dX6_push_68 (q := 69) rfl ?_
              refine v_iinc_2 hC (v := _ + 1) rfl rfl dX6_push_69 (q := 72) rfl ?_
              refine v_goto hC dX6_push_72 (t := 8) rfl ?_
              refine v_weak (lv' := [some (.ref (ga X 47)), some (.int (nI q)), some (.int (nI j + 1)), none]) ⟨rfl, rfl, rfl, trivial⟩ ?_
              refine v_same ?_ ?_ rfl ih
              · simp [va_up_self]
              · rw [if_neg (by simp only [okP, Bool.and_eq_true, decide_eq_true_eq]; exact fun z => hc57 z.2)]; simp [nI_1, m1N]
    exact loop 0 (Nat.zero_le _)
  have small : ¬ 1 < n → V l X (rmk 5 116) C (hp X S (i, m, va_up r 2 m, c)) 8 [some (.ref (ga X 47)), some (.int (-1)), some (.int (nI 0)), none] [] := by
    intro h1
    refine v_iload_n hC rfl dX6_push_8 (q := 9) rfl ?_
    refine v_iconst hC (v := 1) rfl dX6_push_9 (q := 10) rfl ?_
    refine v_aload_n hC rfl dX6_push_10 (q := 11) rfl ?_
    refine v_get hC fl_X6_9 (k := 47) (by decide) hp_47 rfl dX6_push_11 (q := 14) rfl ?_
    refine v_iconst hC (v := 1) rfl dX6_push_14 (q := 15) rfl ?_
    refine v_iald hC (k := 48) (by decide) hp_48 (vp_l (by decide)) (j := 1) rfl dX6_push_15 (q := 16) rfl ?_
    refine v_ishl hC dX6_push_16 (q := 17) rfl ?_
    refine v_icmp_ge hC dX6_push_17 (t := 75) rfl (q := 20) rfl (fun h17 => ?_) (fun h17 => ?_)
    · refine v_aload_n hC rfl dX6_push_75 (q := 76) rfl ?_
      refine v_iload_n hC rfl dX6_push_76 (q := 77) rfl ?_
      refine v_Vi hC lkV_X6_132 (c_X6_orNone (e := none) (fun k h => by cases h)) rfl (by decide) (k := 47) (by decide) hp_47 rfl rfl (Nat.le_of_ble_eq_true rfl) dX6_push_77 (q := 80) rfl ?_
      rintro _ _ ⟨rfl, rfl⟩
      refine hR _ _ _ _ ?_ dX6_push_80
      exact ⟨by simp only [S_push, if_neg h1]; rfl, m, by simp only [S_push, if_neg h1]; rfl⟩
    · refine v_aload_n hC rfl dX6_push_20 (q := 21) rfl ?_
      refine v_get hC fl_X6_9 (k := 47) (by decide) hp_47 rfl dX6_push_21 (q := 24) rfl ?_
      refine v_iconst hC (v := 1) rfl dX6_push_24 (q := 25) rfl ?_
      refine v_iald hC (k := 48) (by decide) hp_48 (vp_l (by decide)) (j := 1) rfl dX6_push_25 (q := 26) rfl ?_
      refine v_iconst hC (v := 1) rfl dX6_push_26 (q := 27) rfl ?_
      refine v_icmp_le hC dX6_push_27 (t := 75) rfl (q := 30) rfl (fun _ => ?_) (fun h => absurd (by rw [hN]; exact nI_le (b := 1) (by omega) (by decide)) h)
      refine v_aload_n hC rfl dX6_push_75 (q := 76) rfl ?_
      refine v_iload_n hC rfl dX6_push_76 (q := 77) rfl ?_
      refine v_Vi hC lkV_X6_132 (c_X6_orNone (e := none) (fun k h => by cases h)) rfl (by decide) (k := 47) (by decide) hp_47 rfl rfl (Nat.le_of_ble_eq_true rfl) dX6_push_77 (q := 80) rfl ?_
      rintro _ _ ⟨rfl, rfl⟩
      refine hR _ _ _ _ ?_ dX6_push_80
      exact ⟨by simp only [S_push, if_neg h1]; rfl, m, by simp only [S_push, if_neg h1]; rfl⟩
  refine v_aload_n hC rfl dX6_push_0 (q := 1) rfl ?_
  refine v_Vv hC lkV_X6_123 c_X6_thinks rfl (by decide) (k := 47) (by decide) hp_47 rfl rfl (Nat.le_of_ble_eq_true rfl) dX6_push_1 (q := 4) rfl ?_
  rintro _ rfl
  refine v_iconst hC (v := (-1)) rfl dX6_push_4 (q := 5) rfl ?_
  refine v_istore_1 hC rfl dX6_push_5 (q := 6) rfl ?_
  refine v_iconst hC (v := 0) rfl dX6_push_6 (q := 7) rfl ?_
  refine v_istore_2 hC rfl dX6_push_7 (q := 8) rfl ?_
  by_cases h1 : 1 < n
  · exact big h1
  · exact small h1
