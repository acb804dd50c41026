theorem qR_mix {m : Nat → Int32} {n : Nat} {a b x y : Nat → Int32} {c z : Nat → Nat → Int32} (h : qR m n a b c) : qR m n (upd (upd x 0 (a 0)) 1 (a 1)) (mixN n b y) (mixN n c z) := by
  obtain ⟨a1, a2, a3, a4, a5, a6, a7⟩ := h
  refine ⟨a1, a2, ?_, ?_, fun p hp => ?_, fun p hp => ?_, fun p hp => ?_⟩
  · simp only [upd, if_true]; exact a3
  · simp [upd]; exact a4
  · rw [mix_lt hp]; exact a5 p hp
  · rw [mix_lt hp]; exact a6 p hp
  · rw [mix_lt hp]; exact a7 p hp
theorem neg_s {s : Nat} (h : s ≤ 120) : -1 - nI s < 0 := by
  have : ∀ s : Fin 121, -1 - nI s.val < 0 := by decide +kernel
  exact this ⟨s, by omega⟩
theorem parF_s (t : Nat → Int32) (T f k n : Nat) (m : Nat → Int32) (p : Nat) : parF t T (f + 1) k n m p = match itemS t T n m p with
  | .inl q => .inl q
  | .inr (m', p') => if tkK t T p' = 21 then parF t T f (k + 1) (m' 1).toNatClampNeg m' (tkE t T p') else if tkK t T p' = 22 then .inr (m', k) else .inl p' := by
  rw [parF]
  cases itemS t T n m p <;> rfl
set_option maxHeartbeats 4000000 in
set_option maxRecDepth 100000 in
theorem c_X4_items {l : Launch} {X : Gx} {M : MS} {q nu : Nat → Nat → Int32} {vc : Nat → Nat → Nat → Int32} {sb : Nat → Nat → Int32} {by_ : Nat → Int32} {sh : Nat → Nat → Int32} {nn : Nat → Nat → Int64} {fo : Nat → Int32} {kp : Int32} {T : Nat} (hT : T ≤ 120) {m : Nat → Int32} {n : Nat} {q2 n2 : Nat → Int32} {v2 : Nat → Nat → Int32} (hQ : qR m n q2 n2 v2) {t1 t2 t3 : Int32} : Ci l X yX4_items cX4_items 3 (some .int) (rmk 7 152) [.ref (ga X 35), .ref (ga X (1 + 11 * 2))] (ch X M (va_up q 2 (q2)) (va_up nu 2 (n2)) (va_up vc 2 (v2)) sb (iv [nI T, t1, t2, t3]) by_ sh nn fo kp) (fun z g => (∃ m' kk k' a' b' c' p', parF by_ T 121 1 n m 0 = .inr (m', kk) ∧ qR m' k' a' b' c' ∧ kk ≤ 200 ∧ z = nI kk ∧ g = ch X M (va_up q 2 a') (va_up nu 2 b') (va_up vc 2 c') sb (iv [nI T, tkC by_ T (p'), nI (tkS by_ T (p')), nI (tkE by_ T (p'))]) by_ sh nn fo kp) ∨ (∃ p' a' b' c', p' ≤ T ∧ parF by_ T 121 1 n m 0 = .inl p' ∧ z = -1 - nI (tkS by_ T p') ∧ g = ch X M (va_up q 2 a') (va_up nu 2 b') (va_up vc 2 c') sb (iv [nI T, tkC by_ T (p'), nI (tkS by_ T (p')), nI (tkE by_ T (p'))]) by_ sh nn fo kp)) := by
  refine ct_i (own := RX4) (lv := [some (.ref (ga X 35)), some (.ref (ga X (1 + 11 * 2))), none]) (by decide) rfl (Nat.le_of_ble_eq_true rfl) (Nat.le_of_ble_eq_true rfl) rfl (fun C hC hR => ?_)
  have loop : ∀ f k p u r a2 b2 c2, f + k = 122 → 1 ≤ k → 2 * (k - 1) ≤ p → p ≤ T → qR u r a2 b2 c2 → parF by_ T 121 1 n m 0 = parF by_ T f k r u p → V l X (rmk 7 152) C (ch X M (va_up q 2 a2) (va_up nu 2 b2) (va_up vc 2 c2) sb (iv [nI T, tkC by_ T (p), nI (tkS by_ T (p)), nI (tkE by_ T (p))]) by_ sh nn fo kp) 6 [some (.ref (ga X 35)), some (.ref (ga X (1 + 11 * 2))), some (.int (nI k))] [] := by
    intro f
    induction f with
    | zero => intro k p u r a2 b2 c2 hf hk hkp hp1 hQ2 hP; omega
    | succ f ih =>
      intro k p u r a2 b2 c2 hf hk hkp hp1 hQ2 hP
      have hP := hP.trans (parF_s by_ T f k r u p)
      refine v_iload_n hC rfl dX4_items_6 (q := 7) rfl ?_
      refine v_bipush hC (v := 120) rfl dX4_items_7 (q := 9) rfl ?_
      refine v_icmp_gt hC dX4_items_9 (t := 52) rfl (q := 12) rfl (fun h => absurd h (Int32.not_lt.mpr (nI_le (b := 120) (by omega) (by decide)))) (fun _ => ?_)
      refine v_aload_n hC rfl dX4_items_12 (q := 13) rfl ?_
      refine v_aload_n hC rfl dX4_items_13 (q := 14) rfl ?_
      refine v_Si hC lkS_X4_14 (c_X4_takesItem hT hp1 hQ2) rfl (by decide) rfl (Nat.le_of_ble_eq_true rfl) dX4_items_14 (q := 17) rfl ?_
      rintro _ _ (⟨m14, p14, k14, a14, b14, c14, hp14, hs14, hr14, rfl, rfl⟩ | ⟨p14, a14, b14, c14, hp14, hs14, rfl, rfl⟩)
      · refine v_if_ne hC dX4_items_17 (t := 23) rfl (q := 20) rfl (fun _ => ?_) (fun h => absurd h (by decide))
        rw [hs14] at hP
        dsimp only at hP
        have hg14 := itemS_gt hp1 hs14
        have hcl : (m14 1).toNatClampNeg = k14 := by rw [hr14.2.1]; exact nI_clamp (by have := hr14.1; omega)
        refine v_aload_n hC rfl dX4_items_23 (q := 24) rfl ?_
        refine v_Vi hC lkV_X4_20 c_X3_isAtEnd rfl (by decide) (k := 35) (by decide) ch_35v rfl rfl (Nat.le_of_ble_eq_true rfl) dX4_items_24 (q := 27) rfl ?_
        rintro _ _ ⟨⟨hc24, rfl⟩ | ⟨hc24, rfl⟩, rfl⟩
        · refine v_if_eq hC dX4_items_27 (t := 32) rfl (q := 30) rfl (fun h => absurd h (by decide)) (fun _ => ?_)
          refine v_iload_n hC rfl dX4_items_30 (q := 31) rfl ?_
          refine hR _ _ _ _ ?_ dX4_items_31
          have hk22 := tk_22.mpr hc24
          rw [if_neg (by rw [hk22]; decide), if_pos hk22] at hP
          exact Or.inl ⟨_, _, _, _, _, _, _, hP, hr14, by omega, rfl, rfl⟩
        · refine v_if_eq hC dX4_items_27 (t := 32) rfl (q := 30) rfl (fun _ => ?_) (fun h => absurd h (by decide))
          refine v_aload_n hC rfl dX4_items_32 (q := 33) rfl ?_
          refine v_Vi hC lkV_X4_24 c_X3_isAtSign rfl (by decide) (k := 35) (by decide) ch_35v rfl rfl (Nat.le_of_ble_eq_true rfl) dX4_items_33 (q := 36) rfl ?_
          rintro _ _ ⟨⟨hc33, rfl⟩ | ⟨hc33, rfl⟩, rfl⟩
          · refine v_if_ne hC dX4_items_36 (t := 42) rfl (q := 39) rfl (fun _ => ?_) (fun h => absurd h (by decide))
            refine v_aload_n hC rfl dX4_items_42 (q := 43) rfl ?_
            refine v_Vv hC lkV_X4_27 (c_X3_step hT (tkE_le (t := by_) hp14).2) rfl (by decide) (k := 35) (by decide) ch_35v rfl rfl (Nat.le_of_ble_eq_true rfl) dX4_items_43 (q := 46) rfl ?_
            rintro _ rfl
            refine v_iinc_2 hC (v := _ + 1) rfl rfl dX4_items_46 (q := 49) rfl ?_
            refine v_goto hC dX4_items_49 (t := 6) rfl ?_
            have hk21 := tk_21.mpr hc33
            rw [if_pos hk21, hcl] at hP
            have hg2 := tkE_gt hp14 (fun z => hc24 (tk_22.mp z))
            refine v_same rfl ?_ rfl (ih (k + 1) (tkE by_ T p14) m14 k14 a14 b14 c14 (by omega) (by omega) (by omega) (tkE_le (t := by_) hp14).2 hr14 hP)
            simp [nI_1]
          · refine v_if_ne hC dX4_items_36 (t := 42) rfl (q := 39) rfl (fun h => absurd h (by decide)) (fun _ => ?_)
            refine v_goto hC dX4_items_39 (t := 52) rfl ?_
            refine v_iconst hC (v := (-1)) rfl dX4_items_52 (q := 53) rfl ?_
            refine v_aload_n hC rfl dX4_items_53 (q := 54) rfl ?_
            refine v_getN hC nl_X4_30 (k := 35) (by decide) ch_35v rfl dX4_items_54 (q := 57) rfl ?_
            refine v_isub hC dX4_items_57 (q := 58) rfl ?_
            refine hR _ _ _ _ ?_ dX4_items_58
            rw [if_neg (fun z => hc33 (tk_21.mp z)), if_neg (fun z => hc24 (tk_22.mp z))] at hP
            exact Or.inr ⟨_, _, _, _, hp14, hP, rfl, rfl⟩
      · refine v_if_ne hC dX4_items_17 (t := 23) rfl (q := 20) rfl (fun h => absurd h (by decide)) (fun _ => ?_)
        refine v_goto hC dX4_items_20 (t := 52) rfl ?_
        refine v_iconst hC (v := (-1)) rfl dX4_items_52 (q := 53) rfl ?_
        refine v_aload_n hC rfl dX4_items_53 (q := 54) rfl ?_
        refine v_getN hC nl_X4_30 (k := 35) (by decide) ch_35v rfl dX4_items_54 (q := 57) rfl ?_
        refine v_isub hC dX4_items_57 (q := 58) rfl ?_
        refine hR _ _ _ _ ?_ dX4_items_58
        rw [hs14] at hP
        exact Or.inr ⟨_, _, _, _, hp14, hP, rfl, rfl⟩
  refine v_aload_n hC rfl dX4_items_0 (q := 1) rfl ?_
  refine v_Vv hC lkV_X4_9 (c_X3_rewind hT) rfl (by decide) (k := 35) (by decide) ch_35v rfl rfl (Nat.le_of_ble_eq_true rfl) dX4_items_1 (q := 4) rfl ?_
  rintro _ rfl
  refine v_iconst hC (v := 1) rfl dX4_items_4 (q := 5) rfl ?_
  refine v_istore_2 hC rfl dX4_items_5 (q := 6) rfl ?_
  exact loop 121 1 0 m n q2 n2 v2 rfl (by decide) (by decide) (Nat.zero_le _) hQ rfl

set_option maxHeartbeats 4000000 in
set_option maxRecDepth 100000 in
theorem c_X5_quay {l : Launch} {X : Gx} {M : MS} {q nu : Nat → Nat → Int32} {vc : Nat → Nat → Nat → Int32} {sb : Nat → Nat → Int32} {by_ : Nat → Int32} {sh : Nat → Nat → Int32} {nn : Nat → Nat → Int64} {fo : Nat → Int32} {kp : Int32} {T : Nat} (hT : T ≤ 120) {m : Nat → Int32} {n : Nat} (hQ : qR m n (q 0) (nu 0) (vc 0)) {t1 t2 t3 : Int32} : Ci l X yX5_quay cX5_quay 2 (some .int) (rmk 8 174) [.ref (ga X 0)] (ch X M q nu vc sb (iv [nI T, t1, t2, t3]) by_ sh nn fo kp) (fun z g => z = S_quay by_ T n m ∧ ∃ n' t1' t2' t3' q' nu' vc', qR (M_quay by_ T n m) n' (q' 0) (nu' 0) (vc' 0) ∧ q' 1 = q 1 ∧ nu' 1 = nu 1 ∧ vc' 1 = vc 1 ∧ g = ch X M q' nu' vc' sb (iv [0, t1', t2', t3']) by_ sh nn fo kp) := by
  refine ct_i (own := RX5) (lv := [some (.ref (ga X 0)), none]) (by decide) rfl (Nat.le_of_ble_eq_true rfl) (Nat.le_of_ble_eq_true rfl) rfl (fun C hC hR => ?_)
  refine v_aload_n hC rfl dX5_quay_0 (q := 1) rfl ?_
  refine v_get hC fl_X5_19 (k := 0) (by decide) ch_0 rfl dX5_quay_1 (q := 4) rfl ?_
  refine v_aload_n hC rfl dX5_quay_4 (q := 5) rfl ?_
  refine v_get hC fl_X5_12 (k := 0) (by decide) ch_0 rfl dX5_quay_5 (q := 8) rfl ?_
  refine v_Vv hC lkV_X5_165 (c_X1_become_C (b := 2) (by decide) (b2 := 0) (by decide) (by decide) hQ.2.2.1 hQ.1) rfl (by decide) (k := 1 + 11 * 2) (by decide) (ch_q (b := 2) (by decide)) rfl rfl (Nat.le_of_ble_eq_true rfl) dX5_quay_8 (q := 11) rfl ?_
  rintro _ rfl
  refine v_aload_n hC rfl dX5_quay_11 (q := 12) rfl ?_
  refine v_get hC fl_X5_32 (k := 0) (by decide) ch_0 rfl dX5_quay_12 (q := 15) rfl ?_
  refine v_aload_n hC rfl dX5_quay_15 (q := 16) rfl ?_
  refine v_get hC fl_X5_19 (k := 0) (by decide) ch_0 rfl dX5_quay_16 (q := 19) rfl ?_
  refine v_Si hC lkS_X5_200 (c_X4_items hT (qR_mix hQ)) rfl (by decide) rfl (Nat.le_of_ble_eq_true rfl) dX5_quay_19 (q := 22) rfl ?_
  rintro _ _ (⟨m19, w19, k19, a19, b19, c19, p19, hs19, hr19, hw19, rfl, rfl⟩ | ⟨p19, a19, b19, c19, hp19, hs19, rfl, rfl⟩)
  · refine v_istore_1 hC rfl dX5_quay_22 (q := 23) rfl ?_
    refine v_iload_n hC rfl dX5_quay_23 (q := 24) rfl ?_
    refine v_if_lt hC dX5_quay_24 (t := 38) rfl (q := 27) rfl (fun h => absurd h (nI_pos (by omega))) (fun _ => ?_)
    refine v_aload_n hC rfl dX5_quay_27 (q := 28) rfl ?_
    refine v_get hC fl_X5_12 (k := 0) (by decide) ch_0 rfl dX5_quay_28 (q := 31) rfl ?_
    refine v_aload_n hC rfl dX5_quay_31 (q := 32) rfl ?_
    refine v_get hC fl_X5_19 (k := 0) (by decide) ch_0 rfl dX5_quay_32 (q := 35) rfl ?_
    refine v_Vv hC lkV_X5_165 (c_X1_become_C (b := 0) (by decide) (b2 := 2) (by decide) (by decide) (show va_up q 2 a19 2 1 = nI k19 by rw [va_up_self]; exact hr19.2.2.1) hr19.1) rfl (by decide) (k := 1 + 11 * 0) (by decide) (ch_q (b := 0) (by decide)) rfl rfl (Nat.le_of_ble_eq_true rfl) dX5_quay_35 (q := 38) rfl ?_
    rintro _ rfl
    refine v_aload_n hC rfl dX5_quay_38 (q := 39) rfl ?_
    refine v_get hC fl_X5_32 (k := 0) (by decide) ch_0 rfl dX5_quay_39 (q := 42) rfl ?_
    refine v_iconst hC (v := 0) rfl dX5_quay_42 (q := 43) rfl ?_
    refine v_putN hC nl_X5_194 pt_3_1 (k := 35) (by decide) ch_35v (Nat.le_of_ble_eq_true rfl) rfl rfl (ch_t0 _) dX5_quay_43 (q := 46) rfl ?_
    refine v_iload_n hC rfl dX5_quay_46 (q := 47) rfl ?_
    refine hR _ _ _ _ ?_ dX5_quay_47
    refine ⟨by simp only [S_quay, hs19], k19, _, _, _, _, _, _, ?_, ?_, ?_, ?_, rfl⟩
    · simp only [M_quay, hs19]
      simp only [va_up_self, va_up_ne _ _ (show (2 : Nat) ≠ 0 by decide), va_up_ne _ _ (show (0 : Nat) ≠ 2 by decide), va_up_ne _ _ (show (1 : Nat) ≠ 2 by decide), va_up_ne _ _ (show (1 : Nat) ≠ 0 by decide)]
      exact qR_mix hr19
    · simp only [va_up_self, va_up_ne _ _ (show (2 : Nat) ≠ 0 by decide), va_up_ne _ _ (show (0 : Nat) ≠ 2 by decide), va_up_ne _ _ (show (1 : Nat) ≠ 2 by decide), va_up_ne _ _ (show (1 : Nat) ≠ 0 by decide)]
    · simp only [va_up_self, va_up_ne _ _ (show (2 : Nat) ≠ 0 by decide), va_up_ne _ _ (show (0 : Nat) ≠ 2 by decide), va_up_ne _ _ (show (1 : Nat) ≠ 2 by decide), va_up_ne _ _ (show (1 : Nat) ≠ 0 by decide)]
    · simp only [va_up_self, va_up_ne _ _ (show (2 : Nat) ≠ 0 by decide), va_up_ne _ _ (show (0 : Nat) ≠ 2 by decide), va_up_ne _ _ (show (1 : Nat) ≠ 2 by decide), va_up_ne _ _ (show (1 : Nat) ≠ 0 by decide)]
  · refine v_istore_1 hC rfl dX5_quay_22 (q := 23) rfl ?_
    refine v_iload_n hC rfl dX5_quay_23 (q := 24) rfl ?_
    refine v_if_lt hC dX5_quay_24 (t := 38) rfl (q := 27) rfl (fun _ => ?_) (fun h => absurd (neg_s (by have := (tkS_le (t := by_) hp19).2; omega)) h)
    refine v_aload_n hC rfl dX5_quay_38 (q := 39) rfl ?_
    refine v_get hC fl_X5_32 (k := 0) (by decide) ch_0 rfl dX5_quay_39 (q := 42) rfl ?_
    refine v_iconst hC (v := 0) rfl dX5_quay_42 (q := 43) rfl ?_
    refine v_putN hC nl_X5_194 pt_3_1 (k := 35) (by decide) ch_35v (Nat.le_of_ble_eq_true rfl) rfl rfl (ch_t0 _) dX5_quay_43 (q := 46) rfl ?_
    refine v_iload_n hC rfl dX5_quay_46 (q := 47) rfl ?_
    refine hR _ _ _ _ ?_ dX5_quay_47
    refine ⟨by simp only [S_quay, hs19], n, _, _, _, _, _, _, ?_, ?_, ?_, ?_, rfl⟩
    · simp only [M_quay, hs19]
      simp only [va_up_self, va_up_ne _ _ (show (2 : Nat) ≠ 0 by decide), va_up_ne _ _ (show (0 : Nat) ≠ 2 by decide), va_up_ne _ _ (show (1 : Nat) ≠ 2 by decide), va_up_ne _ _ (show (1 : Nat) ≠ 0 by decide)]
      exact hQ
    · simp only [va_up_self, va_up_ne _ _ (show (2 : Nat) ≠ 0 by decide), va_up_ne _ _ (show (0 : Nat) ≠ 2 by decide), va_up_ne _ _ (show (1 : Nat) ≠ 2 by decide), va_up_ne _ _ (show (1 : Nat) ≠ 0 by decide)]
    · simp only [va_up_self, va_up_ne _ _ (show (2 : Nat) ≠ 0 by decide), va_up_ne _ _ (show (0 : Nat) ≠ 2 by decide), va_up_ne _ _ (show (1 : Nat) ≠ 2 by decide), va_up_ne _ _ (show (1 : Nat) ≠ 0 by decide)]
    · simp only [va_up_self, va_up_ne _ _ (show (2 : Nat) ≠ 0 by decide), va_up_ne _ _ (show (0 : Nat) ≠ 2 by decide), va_up_ne _ _ (show (1 : Nat) ≠ 2 by decide), va_up_ne _ _ (show (1 : Nat) ≠ 0 by decide)]
