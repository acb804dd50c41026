set_option maxHeartbeats 4000000 in
set_option maxRecDepth 100000 in
theorem c_X6_grudgeOn {l : Launch} {X : Gx} {S : CS} {i m : Nat → Int32} {r : Nat → Nat → Int32} {c : Nat → Int64} {n p : Nat} (hN : m 1 = nI n) (h8 : n ≤ 8) (hP : p < n) {k : Nat} (hk : k < 2147483648) : Ci l X yX6_grudgeOn cX6_grudgeOn 4 (some .int) (rmk 6 137) [.ref (ga X 47), .int (nI p), .int (nI k)] (hp X S (i, m, r, c)) (fun z g => z = itD (nI p) (pv m p) k 1 ∧ g = hp X S (i, r 2, r, c)) := by
  refine ct_i (own := RX6) (lv := [some (.ref (ga X 47)), some (.int (nI p)), some (.int (nI k)), none]) (by decide) rfl (Nat.le_of_ble_eq_true rfl) (Nat.le_of_ble_eq_true rfl) rfl (fun C hC hR => ?_)
  refine v_aload_n hC rfl dX6_grudgeOn_0 (q := 1) rfl ?_
  refine v_iload_n hC rfl dX6_grudgeOn_1 (q := 2) rfl ?_
  refine v_Vv hC lkV_X6_105 (c_X6_goesFor hN h8 hk) rfl (by decide) (k := 47) (by decide) hp_47 rfl rfl (Nat.le_of_ble_eq_true rfl) dX6_grudgeOn_2 (q := 5) rfl ?_
  rintro _ rfl
  refine v_aload_n hC rfl dX6_grudgeOn_5 (q := 6) rfl ?_
  refine v_iload_n hC rfl dX6_grudgeOn_6 (q := 7) rfl ?_
  refine v_iconst hC (v := 1) rfl dX6_grudgeOn_7 (q := 8) rfl ?_
  refine v_Vi hC lkV_X6_49 (c_X6_it (w := 1) (by first | assumption | omega) (Nat.le_of_ble_eq_true rfl)) rfl (by decide) (k := 47) (by decide) hp_47 rfl rfl (Nat.le_of_ble_eq_true rfl) dX6_grudgeOn_8 (q := 11) rfl ?_
  rintro _ _ ⟨rfl, rfl⟩
  refine v_istore_3 hC rfl dX6_grudgeOn_11 (q := 12) rfl ?_
  refine v_aload_n hC rfl dX6_grudgeOn_12 (q := 13) rfl ?_
  refine v_Vv hC lkV_X6_126 c_X6_putsBack rfl (by decide) (k := 47) (by decide) hp_47 rfl rfl (Nat.le_of_ble_eq_true rfl) dX6_grudgeOn_13 (q := 16) rfl ?_
  rintro _ rfl
  refine v_iload_n hC rfl dX6_grudgeOn_16 (q := 17) rfl ?_
  refine hR _ _ _ _ ?_ dX6_grudgeOn_17
  exact ⟨by rw [pv_goN hP], rfl⟩

theorem bt_1 (j : Nat) : nI j - 1 + 1 = nI (j + 1) - 1 := by
  rw [nI_succ, Int32.sub_add_cancel, Int32.add_sub_cancel]
theorem bt_2 (j : Nat) : nI (j + 1) - 1 = nI j := nI_pred j
set_option maxHeartbeats 4000000 in
set_option maxRecDepth 100000 in
theorem c_X6_better {l : Launch} {X : Gx} {S : CS} {i m : Nat → Int32} {r : Nat → Nat → Int32} {c : Nat → Int64} {n : Nat} (hN : m 1 = nI n) (h8 : n ≤ 8) {p k : Int32} : Ci l X yX6_better cX6_better 7 (some .int) (rmk 7 160) [.ref (ga X 47), .int p, .int k] (hp X S (i, m, r, c)) (fun z g => z = ansI (S_better n (pv m) p k) ∧ ∃ W, g = hp X S (i, m, fnR (va_up r 2 W) (S_better n (pv m) p k), c)) := by
  refine ct_i (own := RX6) (lv := [some (.ref (ga X 47)), some (.int p), some (.int k), none, none, none, none]) (by decide) rfl (Nat.le_of_ble_eq_true rfl) (Nat.le_of_ble_eq_true rfl) rfl (fun C hC hR => ?_)
  have hix : ∀ P, P < n → pIx n (nI P) = some P := fun P h => pIx_nI h h8
  have hno : ∀ p, (¬ ∃ P, P < n ∧ p = nI P) → pIx n p = none := fun p h => pIx_no h8 h
  have main : ∀ P K, P < n → K ≤ 60 → p = nI P → k = nI K → (1 ≤ k ∧ k ≤ 60) → V l X (rmk 7 160) C (hp X S (i, m, va_up r 2 m, c)) 39 [some (.ref (ga X 47)), some (.int (nI P)), some (.int (nI K)), some (.int (nI (leaF (fun t => itD (nI P) (upd (pv m P) 2 (nI t - 1)) K 1) 0).2)), some (.int ((leaF (fun t => itD (nI P) (upd (pv m P) 2 (nI t - 1)) K 1) 0).1)), some (.int (nI 0 - 1)), none] [] := by
    intro P K hP hK hpe hke hkk
    have hx := hix P hP
    have hP8 : P < 8 := by omega
    have hcl : (nI K).toNatClampNeg = K := nI_clamp (by omega)
    have loop : ∀ j, j ≤ (n + 1) → V l X (rmk 7 160) C (hp X S (i, m, va_up r 2 m, c)) 39 [some (.ref (ga X 47)), some (.int (nI P)), some (.int (nI K)), some (.int (nI (leaF (fun t => itD (nI P) (upd (pv m P) 2 (nI t - 1)) K 1) j).2)), some (.int ((leaF (fun t => itD (nI P) (upd (pv m P) 2 (nI t - 1)) K 1) j).1)), some (.int (nI j - 1)), none] [] := by
      refine v_up (n + 1) ?_ ?_
      · refine v_iload hC rfl dX6_better_39 (q := 41) rfl ?_
        refine v_aload_n hC rfl dX6_better_41 (q := 42) rfl ?_
        refine v_get hC fl_X6_9 (k := 47) (by decide) hp_47 rfl dX6_better_42 (q := 45) rfl ?_
        refine v_iconst hC (v := 1) rfl dX6_better_45 (q := 46) rfl ?_
        refine v_iald hC (k := 48) (by decide) hp_48 (vp_l (by decide)) (j := 1) rfl dX6_better_46 (q := 47) rfl ?_
        refine v_icmp_ge hC dX6_better_47 (t := 104) rfl (q := 50) rfl (fun _ => ?_) (fun h => absurd (by rw [hN, nI_pred]; exact Int32.le_refl _) h)
        refine v_iload_n hC rfl dX6_better_104 (q := 105) rfl ?_
        refine hR _ _ _ _ ?_ dX6_better_105
        exact ⟨by simp only [S_better, hpe, hx, hke, hcl, if_pos (hke ▸ hkk), ansI], m, by simp only [S_better, hpe, hx, hke, hcl, if_pos (hke ▸ hkk), fnR]⟩
      · intro j hj ih
        refine v_iload hC rfl dX6_better_39 (q := 41) rfl ?_
        refine v_aload_n hC rfl dX6_better_41 (q := 42) rfl ?_
        refine v_get hC fl_X6_9 (k := 47) (by decide) hp_47 rfl dX6_better_42 (q := 45) rfl ?_
        refine v_iconst hC (v := 1) rfl dX6_better_45 (q := 46) rfl ?_
        refine v_iald hC (k := 48) (by decide) hp_48 (vp_l (by decide)) (j := 1) rfl dX6_better_46 (q := 47) rfl ?_
        refine v_icmp_ge hC dX6_better_47 (t := 104) rfl (q := 50) rfl (fun h => absurd h (by rw [hN]; exact n8' (by omega) h8)) (fun _ => ?_)
        refine v_aload_n hC rfl dX6_better_50 (q := 51) rfl ?_
        refine v_iload_n hC rfl dX6_better_51 (q := 52) rfl ?_
        refine v_iconst hC (v := 2) rfl dX6_better_52 (q := 53) rfl ?_
        refine v_iload hC rfl dX6_better_53 (q := 55) rfl ?_
        refine v_Vv hC lkV_X6_63 (c_X6_put (w := 2) (by first | assumption | omega) (Nat.le_of_ble_eq_true rfl)) rfl (by decide) (k := 47) (by decide) hp_47 rfl rfl (Nat.le_of_ble_eq_true rfl) dX6_better_55 (q := 58) rfl ?_
        rintro _ rfl
        refine v_aload_n hC rfl dX6_better_58 (q := 59) rfl ?_
        refine v_iload_n hC rfl dX6_better_59 (q := 60) rfl ?_
        refine v_iload_n hC rfl dX6_better_60 (q := 61) rfl ?_
        refine v_Vi hC lkV_X6_135 (c_X6_grudgeOn (m := pu m P 2 (nI j - 1)) (pu_1.trans hN) h8 hP (by omega)) rfl (by decide) (k := 47) (by decide) hp_47 rfl rfl (Nat.le_of_ble_eq_true rfl) dX6_better_61 (q := 64) rfl ?_
        rintro _ _ ⟨rfl, rfl⟩
        rw [va_up_self, pv_pu (by decide)]
        refine v_istore_6 hC rfl dX6_better_64 (q := 66) rfl ?_
        refine v_iload hC rfl dX6_better_66 (q := 68) rfl ?_
        refine v_iload hC rfl dX6_better_68 (q := 70) rfl ?_
        refine v_icmp_ge hC dX6_better_70 (t := 80) rfl (q := 73) rfl (fun h70 => ?_) (fun h70 => ?_)
        · refine v_iload_n hC rfl dX6_better_80 (q := 81) rfl ?_
          refine v_istore_3 hC rfl dX6_better_81 (q := 82) rfl ?_
          refine v_iload hC rfl dX6_better_82 (q := 84) rfl ?_
          refine v_iload hC rfl dX6_better_84 (q := 86) rfl ?_
          refine v_icmp_ge hC dX6_better_86 (t := 94) rfl (q := 89) rfl (fun h86 => ?_) (fun h86 => ?_)
          · refine v_iload hC rfl dX6_better_94 (q := 96) rfl ?_
            refine v_istore_4 hC rfl dX6_better_96 (q := 98) rfl ?_
            refine v_iinc_5 hC (v := _ + 1) rfl rfl dX6_better_98 (q := 101) rfl ?_
            refine v_goto hC dX6_better_101 (t := 39) rfl ?_
            refine v_weak (lv' := [some (.ref (ga X 47)), some (.int (nI P)), some (.int (nI K)), some (.int (nI (leaF (fun t => itD (nI P) (upd (pv m P) 2 (nI t - 1)) K 1) j).2)), some (.int ((leaF (fun t => itD (nI P) (upd (pv m P) 2 (nI t - 1)) K 1) j).1)), some (.int (nI j - 1 + 1)), none]) ⟨rfl, rfl, rfl, rfl, rfl, rfl, trivial⟩ ?_
            refine v_same rfl ?_ rfl ih
            rw [leaF, if_neg (Int32.not_lt.mpr h70)]
            simp [bt_2]
          · refine v_iload hC rfl dX6_better_89 (q := 91) rfl ?_
            refine v_goto hC dX6_better_91 (t := 96) rfl ?_
            refine v_istore_4 hC rfl dX6_better_96 (q := 98) rfl ?_
            refine v_iinc_5 hC (v := _ + 1) rfl rfl dX6_better_98 (q := 101) rfl ?_
            refine v_goto hC dX6_better_101 (t := 39) rfl ?_
            exact absurd h70 h86
        · refine v_iload hC rfl dX6_better_73 (q := 75) rfl ?_
          refine v_iconst hC (v := 1) rfl dX6_better_75 (q := 76) rfl ?_
          refine v_iadd hC dX6_better_76 (q := 77) rfl ?_
          refine v_goto hC dX6_better_77 (t := 81) rfl ?_
          refine v_istore_3 hC rfl dX6_better_81 (q := 82) rfl ?_
          refine v_iload hC rfl dX6_better_82 (q := 84) rfl ?_
          refine v_iload hC rfl dX6_better_84 (q := 86) rfl ?_
          refine v_icmp_ge hC dX6_better_86 (t := 94) rfl (q := 89) rfl (fun h86 => ?_) (fun h86 => ?_)
          · refine v_iload hC rfl dX6_better_94 (q := 96) rfl ?_
            refine v_istore_4 hC rfl dX6_better_96 (q := 98) rfl ?_
            refine v_iinc_5 hC (v := _ + 1) rfl rfl dX6_better_98 (q := 101) rfl ?_
            refine v_goto hC dX6_better_101 (t := 39) rfl ?_
            exact absurd h86 h70
          · refine v_iload hC rfl dX6_better_89 (q := 91) rfl ?_
            refine v_goto hC dX6_better_91 (t := 96) rfl ?_
            refine v_istore_4 hC rfl dX6_better_96 (q := 98) rfl ?_
            refine v_iinc_5 hC (v := _ + 1) rfl rfl dX6_better_98 (q := 101) rfl ?_
            refine v_goto hC dX6_better_101 (t := 39) rfl ?_
            refine v_weak (lv' := [some (.ref (ga X 47)), some (.int (nI P)), some (.int (nI K)), some (.int (nI j - 1 + 1)), some (.int (itD (nI P) (upd (pv m P) 2 (nI j - 1)) K 1)), some (.int (nI j - 1 + 1)), none]) ⟨rfl, rfl, rfl, rfl, rfl, rfl, trivial⟩ ?_
            refine v_same rfl ?_ rfl ih
            rw [leaF, if_pos (Int32.not_le.mp h70)]
            simp [bt_2]
    exact loop 0 (Nat.zero_le _)
  refine v_aload_n hC rfl dX6_better_0 (q := 1) rfl ?_
  refine v_iload_n hC rfl dX6_better_1 (q := 2) rfl ?_
  refine v_Vi hC lkV_X6_45 (c_X6_isPerson hN h8) rfl (by decide) (k := 47) (by decide) hp_47 rfl rfl (Nat.le_of_ble_eq_true rfl) dX6_better_2 (q := 5) rfl ?_
  rintro _ _ ⟨⟨⟨P2, hP2, rfl⟩, rfl⟩ | ⟨hc2, rfl⟩, rfl⟩
  · refine v_if_eq hC dX6_better_5 (t := 19) rfl (q := 8) rfl (fun h => absurd h (by decide)) (fun _ => ?_)
    refine v_iload_n hC rfl dX6_better_8 (q := 9) rfl ?_
    refine v_i2l hC dX6_better_9 (q := 10) rfl ?_
    refine v_iconst hC (v := 1) rfl dX6_better_10 (q := 11) rfl ?_
    refine v_bipush hC (v := 60) rfl dX6_better_11 (q := 13) rfl ?_
    refine v_Si hC lkS_X6_41 c_X6_in rfl (by decide) rfl (Nat.le_of_ble_eq_true rfl) dX6_better_13 (q := 16) rfl ?_
    rintro _ _ ⟨⟨hc13, rfl⟩ | ⟨hc13, rfl⟩, rfl⟩
    · refine v_if_ne hC dX6_better_16 (t := 26) rfl (q := 19) rfl (fun _ => ?_) (fun h => absurd h (by decide))
      obtain ⟨K, _, hK, rfl⟩ := w_of' (a := 1) (N := 60) (by decide) (by decide) hc13.1 hc13.2
      have hcl : (nI K).toNatClampNeg = K := nI_clamp (by omega)
      refine v_aload_n hC rfl dX6_better_26 (q := 27) rfl ?_
      refine v_Vv hC lkV_X6_123 c_X6_thinks rfl (by decide) (k := 47) (by decide) hp_47 rfl rfl (Nat.le_of_ble_eq_true rfl) dX6_better_27 (q := 30) rfl ?_
      rintro _ rfl
      refine v_iconst hC (v := 0) rfl dX6_better_30 (q := 31) rfl ?_
      refine v_istore_3 hC rfl dX6_better_31 (q := 32) rfl ?_
      refine v_bipush hC (v := 100) rfl dX6_better_32 (q := 34) rfl ?_
      refine v_istore_4 hC rfl dX6_better_34 (q := 36) rfl ?_
      refine v_iconst hC (v := (-1)) rfl dX6_better_36 (q := 37) rfl ?_
      refine v_istore_5 hC rfl dX6_better_37 (q := 39) rfl ?_
      exact main P2 K hP2 (by omega) rfl rfl hc13
    · refine v_if_ne hC dX6_better_16 (t := 26) rfl (q := 19) rfl (fun h => absurd h (by decide)) (fun _ => ?_)
      refine v_aload_n hC rfl dX6_better_19 (q := 20) rfl ?_
      refine v_ldc hC wk_X6_35 dX6_better_20 (q := 22) rfl ?_
      refine v_Vi hC lkV_X6_37 (c_X6_finds (n := 0) (by decide)) rfl (by decide) (k := 47) (by decide) hp_47 rfl rfl (Nat.le_of_ble_eq_true rfl) dX6_better_22 (q := 25) rfl ?_
      rintro _ _ ⟨rfl, rfl⟩
      refine hR _ _ _ _ ?_ dX6_better_25
      first
        | (refine ⟨?_, r 2, ?_⟩ <;> (simp [S_better, ansI, fnR, hno _ hc2, up_id]; done))
        | (refine ⟨?_, r 2, ?_⟩ <;> (simp [S_better, ansI, fnR, hix _ hP2, hc13, up_id]; done))
  · refine v_if_eq hC dX6_better_5 (t := 19) rfl (q := 8) rfl (fun _ => ?_) (fun h => absurd h (by decide))
    refine v_aload_n hC rfl dX6_better_19 (q := 20) rfl ?_
    refine v_ldc hC wk_X6_35 dX6_better_20 (q := 22) rfl ?_
    refine v_Vi hC lkV_X6_37 (c_X6_finds (n := 0) (by decide)) rfl (by decide) (k := 47) (by decide) hp_47 rfl rfl (Nat.le_of_ble_eq_true rfl) dX6_better_22 (q := 25) rfl ?_
    rintro _ _ ⟨rfl, rfl⟩
    refine hR _ _ _ _ ?_ dX6_better_25
    first
      | (refine ⟨?_, r 2, ?_⟩ <;> (simp [S_better, ansI, fnR, hno _ hc2, up_id]; done))
      | (refine ⟨?_, r 2, ?_⟩ <;> (simp [S_better, ansI, fnR, hix _ hP2, hc13, up_id]; done))

set_option maxHeartbeats 4000000 in
set_option maxRecDepth 100000 in
theorem c_X6_most {l : Launch} {X : Gx} {S : CS} {i m : Nat → Int32} {r : Nat → Nat → Int32} {c : Nat → Int64} {n : Nat} (hN : m 1 = nI n) (h8 : n ≤ 8) {p k : Int32} : Ci l X yX6_most cX6_most 5 (some .int) (rmk 7 160) [.ref (ga X 47), .int p, .int k] (hp X S (i, m, r, c)) (fun z g => z = ansI (S_most n (pv m) p k) ∧ ∃ W, g = hp X S (i, m, fnR (va_up r 2 W) (S_most n (pv m) p k), c)) := by
  refine ct_i (own := RX6) (lv := [some (.ref (ga X 47)), some (.int p), some (.int k), none, none]) (by decide) rfl (Nat.le_of_ble_eq_true rfl) (Nat.le_of_ble_eq_true rfl) rfl (fun C hC hR => ?_)
  have hix : ∀ P, P < n → pIx n (nI P) = some P := fun P h => pIx_nI h h8
  have hno : ∀ p, (¬ ∃ P, P < n ∧ p = nI P) → pIx n p = none := fun p h => pIx_no h8 h
  have main : ∀ P K, P < n → K ≤ 60 → p = nI P → k = nI K → (1 ≤ k ∧ k ≤ 60) → V l X (rmk 7 160) C (hp X S (i, m, va_up r 2 m, c)) 36 [some (.ref (ga X 47)), some (.int (nI P)), some (.int (nI K)), some (.int (-1)), some (.int (nI 100 + (-1)))] [] := by
    intro P K hP hK hpe hke hkk
    have hx := hix P hP
    have hP8 : P < 8 := by omega
    have hcl : (nI K).toNatClampNeg = K := nI_clamp (by omega)
    have fin : ∀ d, d < 100 → mst (nI P) (pv m P) K = some d → V l X (rmk 7 160) C (hp X S (i, m, va_up r 2 m, c)) 36 [some (.ref (ga X 47)), some (.int (nI P)), some (.int (nI K)), some (.int (nI d)), some (.int (nI d + (-1)))] [] := by
      intro d hd hI
      refine v_iload hC rfl dX6_most_36 (q := 38) rfl ?_
      refine v_if_lt hC dX6_most_38 (t := 75) rfl (q := 41) rfl (fun h38 => ?_) (fun h38 => ?_)
      · refine v_aload_n hC rfl dX6_most_75 (q := 76) rfl ?_
        refine v_iload_n hC rfl dX6_most_76 (q := 77) rfl ?_
        refine v_Vi hC lkV_X6_132 (c_X6_orNone (e := some d) (fun k h => by cases h; omega)) rfl (by decide) (k := 47) (by decide) hp_47 rfl rfl (Nat.le_of_ble_eq_true rfl) dX6_most_77 (q := 80) rfl ?_
        rintro _ _ ⟨rfl, rfl⟩
        refine hR _ _ _ _ ?_ dX6_most_80
        exact ⟨by simp only [S_most, hpe, hx, hke, hcl, if_pos (hke ▸ hkk), hI], m, by simp only [S_most, hpe, hx, hke, hcl, if_pos (hke ▸ hkk), hI]⟩
      · refine v_iload_n hC rfl dX6_most_41 (q := 42) rfl ?_
        refine v_if_ge hC dX6_most_42 (t := 75) rfl (q := 45) rfl (fun _ => ?_) (fun h => absurd (nI_pos' (by omega)) h)
        refine v_aload_n hC rfl dX6_most_75 (q := 76) rfl ?_
        refine v_iload_n hC rfl dX6_most_76 (q := 77) rfl ?_
        refine v_Vi hC lkV_X6_132 (c_X6_orNone (e := some d) (fun k h => by cases h; omega)) rfl (by decide) (k := 47) (by decide) hp_47 rfl rfl (Nat.le_of_ble_eq_true rfl) dX6_most_77 (q := 80) rfl ?_
        rintro _ _ ⟨rfl, rfl⟩
        refine hR _ _ _ _ ?_ dX6_most_80
        exact ⟨by simp only [S_most, hpe, hx, hke, hcl, if_pos (hke ▸ hkk), hI], m, by simp only [S_most, hpe, hx, hke, hcl, if_pos (hke ▸ hkk), hI]⟩
    have loop : ∀ d, d ≤ 100 → mst (nI P) (pv m P) K = grtF (fun x => decide (itD (nI P) (upd (pv m P) 1 (nI x)) K 1 = 0)) d → V l X (rmk 7 160) C (hp X S (i, m, va_up r 2 m, c)) 36 [some (.ref (ga X 47)), some (.int (nI P)), some (.int (nI K)), some (.int (-1)), some (.int (nI d + (-1)))] [] := by
      intro d
      induction d with
      | zero =>
        intro _ hI
        have hI : mst (nI P) (pv m P) K = none := hI
        refine v_iload hC rfl dX6_most_36 (q := 38) rfl ?_
        refine v_if_lt hC dX6_most_38 (t := 75) rfl (q := 41) rfl (fun _ => ?_) (fun h => absurd (by decide) h)
        refine v_aload_n hC rfl dX6_most_75 (q := 76) rfl ?_
        refine v_iload_n hC rfl dX6_most_76 (q := 77) rfl ?_
        refine v_Vi hC lkV_X6_132 (c_X6_orNone (e := none) (fun k h => by cases h)) rfl (by decide) (k := 47) (by decide) hp_47 rfl rfl (Nat.le_of_ble_eq_true rfl) dX6_most_77 (q := 80) rfl ?_
        rintro _ _ ⟨rfl, rfl⟩
        refine hR _ _ _ _ ?_ dX6_most_80
        exact ⟨by simp only [S_most, hpe, hx, hke, hcl, if_pos (hke ▸ hkk), hI], m, by simp only [S_most, hpe, hx, hke, hcl, if_pos (hke ▸ hkk), hI]⟩
      | succ d ih =>
        intro hd hI
        rw [grtF] at hI
        rw [pk_m1]
        refine v_iload hC rfl dX6_most_36 (q := 38) rfl ?_
        refine v_if_lt hC dX6_most_38 (t := 75) rfl (q := 41) rfl (fun h => absurd h (nI_pos (by omega))) (fun _ => ?_)
        refine v_iload_n hC rfl dX6_most_41 (q := 42) rfl ?_
        refine v_if_ge hC dX6_most_42 (t := 75) rfl (q := 45) rfl (fun h => absurd h (by decide)) (fun _ => ?_)
        refine v_aload_n hC rfl dX6_most_45 (q := 46) rfl ?_
        refine v_iload_n hC rfl dX6_most_46 (q := 47) rfl ?_
        refine v_iconst hC (v := 1) rfl dX6_most_47 (q := 48) rfl ?_
        refine v_iload hC rfl dX6_most_48 (q := 50) rfl ?_
        refine v_Vv hC lkV_X6_63 (c_X6_put (w := 1) (by first | assumption | omega) (Nat.le_of_ble_eq_true rfl)) rfl (by decide) (k := 47) (by decide) hp_47 rfl rfl (Nat.le_of_ble_eq_true rfl) dX6_most_50 (q := 53) rfl ?_
        rintro _ rfl
        refine v_aload_n hC rfl dX6_most_53 (q := 54) rfl ?_
        refine v_iload_n hC rfl dX6_most_54 (q := 55) rfl ?_
        refine v_iload_n hC rfl dX6_most_55 (q := 56) rfl ?_
        refine v_Vi hC lkV_X6_135 (c_X6_grudgeOn (m := pu m P 1 (nI d)) (pu_1.trans hN) h8 hP (by omega)) rfl (by decide) (k := 47) (by decide) hp_47 rfl rfl (Nat.le_of_ble_eq_true rfl) dX6_most_56 (q := 59) rfl ?_
        rintro _ _ ⟨rfl, rfl⟩
        rw [va_up_self, pv_pu (by decide)]
        refine v_if_ne hC dX6_most_59 (t := 67) rfl (q := 62) rfl (fun h59 => ?_) (fun h59 => ?_)
        · refine v_iconst hC (v := (-1)) rfl dX6_most_67 (q := 68) rfl ?_
          refine v_istore_3 hC rfl dX6_most_68 (q := 69) rfl ?_
          refine v_iinc_4 hC (v := _ + (-1)) rfl (iinc_m1 _) dX6_most_69 (q := 72) rfl ?_
          refine v_goto hC dX6_most_72 (t := 36) rfl ?_
          exact ih (by omega) (by rw [hI, if_neg (by simpa using h59)])
        · refine v_iload hC rfl dX6_most_62 (q := 64) rfl ?_
          refine v_goto hC dX6_most_64 (t := 68) rfl ?_
          refine v_istore_3 hC rfl dX6_most_68 (q := 69) rfl ?_
          refine v_iinc_4 hC (v := _ + (-1)) rfl (iinc_m1 _) dX6_most_69 (q := 72) rfl ?_
          refine v_goto hC dX6_most_72 (t := 36) rfl ?_
          exact fin d (by omega) (by rw [hI, if_pos (by simpa using h59)])
    exact loop 100 (Nat.le_refl _) (mst_eq _ _ _)
  refine v_aload_n hC rfl dX6_most_0 (q := 1) rfl ?_
  refine v_iload_n hC rfl dX6_most_1 (q := 2) rfl ?_
  refine v_Vi hC lkV_X6_45 (c_X6_isPerson hN h8) rfl (by decide) (k := 47) (by decide) hp_47 rfl rfl (Nat.le_of_ble_eq_true rfl) dX6_most_2 (q := 5) rfl ?_
  rintro _ _ ⟨⟨⟨P2, hP2, rfl⟩, rfl⟩ | ⟨hc2, rfl⟩, rfl⟩
  · refine v_if_eq hC dX6_most_5 (t := 19) rfl (q := 8) rfl (fun h => absurd h (by decide)) (fun _ => ?_)
    refine v_iload_n hC rfl dX6_most_8 (q := 9) rfl ?_
    refine v_i2l hC dX6_most_9 (q := 10) rfl ?_
    refine v_iconst hC (v := 1) rfl dX6_most_10 (q := 11) rfl ?_
    refine v_bipush hC (v := 60) rfl dX6_most_11 (q := 13) rfl ?_
    refine v_Si hC lkS_X6_41 c_X6_in rfl (by decide) rfl (Nat.le_of_ble_eq_true rfl) dX6_most_13 (q := 16) rfl ?_
    rintro _ _ ⟨⟨hc13, rfl⟩ | ⟨hc13, rfl⟩, rfl⟩
    · refine v_if_ne hC dX6_most_16 (t := 26) rfl (q := 19) rfl (fun _ => ?_) (fun h => absurd h (by decide))
      obtain ⟨K, _, hK, rfl⟩ := w_of' (a := 1) (N := 60) (by decide) (by decide) hc13.1 hc13.2
      have hcl : (nI K).toNatClampNeg = K := nI_clamp (by omega)
      refine v_aload_n hC rfl dX6_most_26 (q := 27) rfl ?_
      refine v_Vv hC lkV_X6_123 c_X6_thinks rfl (by decide) (k := 47) (by decide) hp_47 rfl rfl (Nat.le_of_ble_eq_true rfl) dX6_most_27 (q := 30) rfl ?_
      rintro _ rfl
      refine v_iconst hC (v := (-1)) rfl dX6_most_30 (q := 31) rfl ?_
      refine v_istore_3 hC rfl dX6_most_31 (q := 32) rfl ?_
      refine v_bipush hC (v := 99) rfl dX6_most_32 (q := 34) rfl ?_
      refine v_istore_4 hC rfl dX6_most_34 (q := 36) rfl ?_
      exact main P2 K hP2 (by omega) rfl rfl hc13
    · refine v_if_ne hC dX6_most_16 (t := 26) rfl (q := 19) rfl (fun h => absurd h (by decide)) (fun _ => ?_)
      refine v_aload_n hC rfl dX6_most_19 (q := 20) rfl ?_
      refine v_ldc hC wk_X6_35 dX6_most_20 (q := 22) rfl ?_
      refine v_Vi hC lkV_X6_37 (c_X6_finds (n := 0) (by decide)) rfl (by decide) (k := 47) (by decide) hp_47 rfl rfl (Nat.le_of_ble_eq_true rfl) dX6_most_22 (q := 25) rfl ?_
      rintro _ _ ⟨rfl, rfl⟩
      refine hR _ _ _ _ ?_ dX6_most_25
      first
        | (refine ⟨?_, r 2, ?_⟩ <;> (simp [S_most, ansI, fnR, hno _ hc2, up_id]; done))
        | (refine ⟨?_, r 2, ?_⟩ <;> (simp [S_most, ansI, fnR, hix _ hP2, hc13, up_id]; done))
  · refine v_if_eq hC dX6_most_5 (t := 19) rfl (q := 8) rfl (fun _ => ?_) (fun h => absurd h (by decide))
    refine v_aload_n hC rfl dX6_most_19 (q := 20) rfl ?_
    refine v_ldc hC wk_X6_35 dX6_most_20 (q := 22) rfl ?_
    refine v_Vi hC lkV_X6_37 (c_X6_finds (n := 0) (by decide)) rfl (by decide) (k := 47) (by decide) hp_47 rfl rfl (Nat.le_of_ble_eq_true rfl) dX6_most_22 (q := 25) rfl ?_
    rintro _ _ ⟨rfl, rfl⟩
    refine hR _ _ _ _ ?_ dX6_most_25
    first
      | (refine ⟨?_, r 2, ?_⟩ <;> (simp [S_most, ansI, fnR, hno _ hc2, up_id]; done))
      | (refine ⟨?_, r 2, ?_⟩ <;> (simp [S_most, ansI, fnR, hix _ hP2, hc13, up_id]; done))

set_option maxHeartbeats 4000000 in
set_option maxRecDepth 100000 in
theorem c_X6_allLooks {l : Launch} {X : Gx} {S : CS} {i m : Nat → Int32} {r : Nat → Nat → Int32} {c : Nat → Int64} {n : Nat} (hN : m 1 = nI n) (h8 : n ≤ 8) {p : Nat} (h1 : p < 8) : Ci l X yX6_allLooks cX6_allLooks 4 (some .int) (rmk 2 48) [.ref (ga X 47), .int (nI p)] (hp X S (i, m, r, c)) (fun z g => z = allF (nI p) (pv m p) n ∧ g = hp X S (i, m, r, c)) := by
  refine ct_i (own := RX6) (lv := [some (.ref (ga X 47)), some (.int (nI p)), none, none]) (by decide) rfl (Nat.le_of_ble_eq_true rfl) (Nat.le_of_ble_eq_true rfl) rfl (fun C hC hR => ?_)
  have loop : ∀ j, j ≤ n → V l X (rmk 2 48) C (hp X S (i, m, r, c)) 4 [some (.ref (ga X 47)), some (.int (nI p)), some (.int (allF (nI p) (pv m p) j)), some (.int (nI j))] [] := by
    refine v_up n ?_ ?_
    · refine v_iload_n hC rfl dX6_allLooks_4 (q := 5) rfl ?_
      refine v_aload_n hC rfl dX6_allLooks_5 (q := 6) rfl ?_
      refine v_get hC fl_X6_9 (k := 47) (by decide) hp_47 rfl dX6_allLooks_6 (q := 9) rfl ?_
      refine v_iconst hC (v := 1) rfl dX6_allLooks_9 (q := 10) rfl ?_
      refine v_iald hC (k := 48) (by decide) hp_48 (vp_l (by decide)) (j := 1) rfl dX6_allLooks_10 (q := 11) rfl ?_
      refine v_icmp_ge hC dX6_allLooks_11 (t := 38) rfl (q := 14) rfl (fun _ => ?_) (fun h => absurd (by rw [hN]; exact Int32.le_refl _) h)
      refine v_iload_n hC rfl dX6_allLooks_38 (q := 39) rfl ?_
      refine hR _ _ _ _ ?_ dX6_allLooks_39
      exact ⟨rfl, rfl⟩
    · intro j hj ih
      refine v_iload_n hC rfl dX6_allLooks_4 (q := 5) rfl ?_
      refine v_aload_n hC rfl dX6_allLooks_5 (q := 6) rfl ?_
      refine v_get hC fl_X6_9 (k := 47) (by decide) hp_47 rfl dX6_allLooks_6 (q := 9) rfl ?_
      refine v_iconst hC (v := 1) rfl dX6_allLooks_9 (q := 10) rfl ?_
      refine v_iald hC (k := 48) (by decide) hp_48 (vp_l (by decide)) (j := 1) rfl dX6_allLooks_10 (q := 11) rfl ?_
      refine v_icmp_ge hC dX6_allLooks_11 (t := 38) rfl (q := 14) rfl (fun h => absurd h (by rw [hN]; exact nI_ge hj (by omega))) (fun _ => ?_)
      refine v_iload_n hC rfl dX6_allLooks_14 (q := 15) rfl ?_
      refine v_iload_n hC rfl dX6_allLooks_15 (q := 16) rfl ?_
      refine v_iload_n hC rfl dX6_allLooks_16 (q := 17) rfl ?_
      refine v_icmp_ne hC dX6_allLooks_17 (t := 24) rfl (q := 20) rfl (fun h17 => ?_) (fun h17 => ?_)
      · refine v_aload_n hC rfl dX6_allLooks_24 (q := 25) rfl ?_
        refine v_iload_n hC rfl dX6_allLooks_25 (q := 26) rfl ?_
        refine v_iload_n hC rfl dX6_allLooks_26 (q := 27) rfl ?_
        refine v_Vi hC lkV_X6_57 (c_X6_looksAt (by omega)) rfl (by decide) (k := 47) (by decide) hp_47 rfl rfl (Nat.le_of_ble_eq_true rfl) dX6_allLooks_27 (q := 30) rfl ?_
        rintro _ _ ⟨rfl, rfl⟩
        refine v_iadd hC dX6_allLooks_30 (q := 31) rfl ?_
        refine v_istore_2 hC rfl dX6_allLooks_31 (q := 32) rfl ?_
        refine v_iinc_3 hC (v := _ + 1) rfl rfl dX6_allLooks_32 (q := 35) rfl ?_
        refine v_goto hC dX6_allLooks_35 (t := 4) rfl ?_
        refine v_same rfl ?_ rfl ih
        simp only [nI_1, allF]
        first | rw [if_pos h17] | rw [if_neg h17]
      · refine v_iconst hC (v := 0) rfl dX6_allLooks_20 (q := 21) rfl ?_
        refine v_goto hC dX6_allLooks_21 (t := 30) rfl ?_
        refine v_iadd hC dX6_allLooks_30 (q := 31) rfl ?_
        refine v_istore_2 hC rfl dX6_allLooks_31 (q := 32) rfl ?_
        refine v_iinc_3 hC (v := _ + 1) rfl rfl dX6_allLooks_32 (q := 35) rfl ?_
        refine v_goto hC dX6_allLooks_35 (t := 4) rfl ?_
        refine v_same rfl ?_ rfl ih
        simp only [nI_1, allF]
        first | rw [if_pos h17] | rw [if_neg h17]
  refine v_iconst hC (v := 0) rfl dX6_allLooks_0 (q := 1) rfl ?_
  refine v_istore_2 hC rfl dX6_allLooks_1 (q := 2) rfl ?_
  refine v_iconst hC (v := 0) rfl dX6_allLooks_2 (q := 3) rfl ?_
  refine v_istore_3 hC rfl dX6_allLooks_3 (q := 4) rfl ?_
  exact loop 0 (Nat.zero_le _)

theorem shaF_congr {e e' : Nat → Int32} : ∀ k, (∀ p, p < k → e p = e' p) → shaF e k = shaF e' k
  | 0, _ => rfl
  | k + 1, h => by rw [shaF, shaF, shaF_congr k (fun p hp => h p (by omega)), h k (by omega)]
set_option maxHeartbeats 4000000 in
set_option maxRecDepth 100000 in
theorem c_X6_sharpest {l : Launch} {X : Gx} {S : CS} {i m : Nat → Int32} {r : Nat → Nat → Int32} {c : Nat → Int64} {n : Nat} (hN : m 1 = nI n) (h8 : n ≤ 8) {k : Int32} : Ci l X yX6_sharpest cX6_sharpest 6 (some .int) (rmk 6 137) [.ref (ga X 47), .int k] (hp X S (i, m, r, c)) (fun z g => z = ansI (S_sharpest n (pv m) k) ∧ ∃ W, g = hp X S (i, m, fnR (va_up r 2 W) (S_sharpest n (pv m) k), c)) := by
  refine ct_i (own := RX6) (lv := [some (.ref (ga X 47)), some (.int k), none, none, none, none]) (by decide) rfl (Nat.le_of_ble_eq_true rfl) (Nat.le_of_ble_eq_true rfl) rfl (fun C hC hR => ?_)
  have main : ∀ K, K ≤ 100 → k = nI K → (0 ≤ k ∧ k ≤ 100) → V l X (rmk 6 137) C (hp X S (i, goN n m K, va_up r 2 m, c)) 34 [some (.ref (ga X 47)), some (.int (nI K)), some (.int (-1)), some (.int (-1)), some (.int (nI 0)), none] [] := by
    intro K hK hke hkk
    have hcl : (nI K).toNatClampNeg = K := nI_clamp (by omega)
    have e1 : goN n m K 1 = nI n := (goN_1 K).trans hN
    have hb : ∀ q, (shaF (fun p => allF (nI p) (pv (goN n m K) p) n) n).2 = some q → q < 1000 := fun q h => by have := shaF_lt _ _ h; omega
    have eS : shaF (fun p => allF (nI p) (pv (goN n m K) p) n) n = shaF (fun p => allF (nI p) (itD (nI p) (pv m p) K) n) n := shaF_congr n (fun p hp => by rw [pv_goN hp])
    have loop : ∀ j, j ≤ n → V l X (rmk 6 137) C (hp X S (i, goN n m K, va_up r 2 m, c)) 34 [some (.ref (ga X 47)), some (.int (nI K)), some (.int (m1N (shaF (fun p => allF (nI p) (pv (goN n m K) p) n) j).2)), some (.int ((shaF (fun p => allF (nI p) (pv (goN n m K) p) n) j).1)), some (.int (nI j)), none] [] := by
      refine v_up n ?_ ?_
      · refine v_iload hC rfl dX6_sharpest_34 (q := 36) rfl ?_
        refine v_aload_n hC rfl dX6_sharpest_36 (q := 37) rfl ?_
        refine v_get hC fl_X6_9 (k := 47) (by decide) hp_47 rfl dX6_sharpest_37 (q := 40) rfl ?_
        refine v_iconst hC (v := 1) rfl dX6_sharpest_40 (q := 41) rfl ?_
        refine v_iald hC (k := 48) (by decide) hp_48 (vp_l (by decide)) (j := 1) rfl dX6_sharpest_41 (q := 42) rfl ?_
        refine v_icmp_ge hC dX6_sharpest_42 (t := 85) rfl (q := 45) rfl (fun _ => ?_) (fun h => absurd (by rw [e1]; exact Int32.le_refl _) h)
        refine v_aload_n hC rfl dX6_sharpest_85 (q := 86) rfl ?_
        refine v_Vv hC lkV_X6_126 c_X6_putsBack rfl (by decide) (k := 47) (by decide) hp_47 rfl rfl (Nat.le_of_ble_eq_true rfl) dX6_sharpest_86 (q := 89) rfl ?_
        rintro _ rfl
        rw [va_up_self]
        refine v_aload_n hC rfl dX6_sharpest_89 (q := 90) rfl ?_
        refine v_iload_n hC rfl dX6_sharpest_90 (q := 91) rfl ?_
        refine v_Vi hC lkV_X6_132 (c_X6_orNone hb) rfl (by decide) (k := 47) (by decide) hp_47 rfl rfl (Nat.le_of_ble_eq_true rfl) dX6_sharpest_91 (q := 94) rfl ?_
        rintro _ _ ⟨rfl, rfl⟩
        refine hR _ _ _ _ ?_ dX6_sharpest_94
        exact ⟨by simp only [S_sharpest, hke, hcl, if_pos (hke ▸ hkk), eS], m, by simp only [S_sharpest, hke, hcl, if_pos (hke ▸ hkk), eS]⟩
      · intro j hj ih
        refine v_iload hC rfl dX6_sharpest_34 (q := 36) rfl ?_
        refine v_aload_n hC rfl dX6_sharpest_36 (q := 37) rfl ?_
        refine v_get hC fl_X6_9 (k := 47) (by decide) hp_47 rfl dX6_sharpest_37 (q := 40) rfl ?_
        refine v_iconst hC (v := 1) rfl dX6_sharpest_40 (q := 41) rfl ?_
        refine v_iald hC (k := 48) (by decide) hp_48 (vp_l (by decide)) (j := 1) rfl dX6_sharpest_41 (q := 42) rfl ?_
        refine v_icmp_ge hC dX6_sharpest_42 (t := 85) rfl (q := 45) rfl (fun h => absurd h (by rw [e1]; exact nI_ge hj (by omega))) (fun _ => ?_)
        refine v_aload_n hC rfl dX6_sharpest_45 (q := 46) rfl ?_
        refine v_iload hC rfl dX6_sharpest_46 (q := 48) rfl ?_
        refine v_Vi hC lkV_X6_138 (c_X6_allLooks e1 h8 (by omega)) rfl (by decide) (k := 47) (by decide) hp_47 rfl rfl (Nat.le_of_ble_eq_true rfl) dX6_sharpest_48 (q := 51) rfl ?_
        rintro _ _ ⟨rfl, rfl⟩
        refine v_istore_5 hC rfl dX6_sharpest_51 (q := 53) rfl ?_
        refine v_iload hC rfl dX6_sharpest_53 (q := 55) rfl ?_
        refine v_iload_n hC rfl dX6_sharpest_55 (q := 56) rfl ?_
        refine v_icmp_le hC dX6_sharpest_56 (t := 64) rfl (q := 59) rfl (fun h56 => ?_) (fun h56 => ?_)
        · refine v_iload_n hC rfl dX6_sharpest_64 (q := 65) rfl ?_
          refine v_istore_2 hC rfl dX6_sharpest_65 (q := 66) rfl ?_
          refine v_iload hC rfl dX6_sharpest_66 (q := 68) rfl ?_
          refine v_iload_n hC rfl dX6_sharpest_68 (q := 69) rfl ?_
          refine v_icmp_le hC dX6_sharpest_69 (t := 77) rfl (q := 72) rfl (fun h69 => ?_) (fun h69 => ?_)
          · refine v_iload_n hC rfl dX6_sharpest_77 (q := 78) rfl ?_
            refine v_istore_3 hC rfl dX6_sharpest_78 (q := 79) rfl ?_
            refine v_iinc_4 hC (v := _ + 1) rfl rfl dX6_sharpest_79 (q := 82) rfl ?_
            refine v_goto hC dX6_sharpest_82 (t := 34) rfl ?_
            refine v_weak (lv' := [some (.ref (ga X 47)), some (.int (nI K)), some (.int (m1N (shaF (fun p => allF (nI p) (pv (goN n m K) p) n) j).2)), some (.int ((shaF (fun p => allF (nI p) (pv (goN n m K) p) n) j).1)), some (.int (nI j + 1)), none]) ⟨rfl, rfl, rfl, rfl, rfl, trivial⟩ ?_
            refine v_same rfl ?_ rfl ih
            rw [shaF, if_neg (Int32.not_lt.mpr h56)]
            simp [nI_1]
          · refine v_iload hC rfl dX6_sharpest_72 (q := 74) rfl ?_
            refine v_goto hC dX6_sharpest_74 (t := 78) rfl ?_
            refine v_istore_3 hC rfl dX6_sharpest_78 (q := 79) rfl ?_
            refine v_iinc_4 hC (v := _ + 1) rfl rfl dX6_sharpest_79 (q := 82) rfl ?_
            refine v_goto hC dX6_sharpest_82 (t := 34) rfl ?_
            exact absurd h56 h69
        · refine v_iload hC rfl dX6_sharpest_59 (q := 61) rfl ?_
          refine v_goto hC dX6_sharpest_61 (t := 65) rfl ?_
          refine v_istore_2 hC rfl dX6_sharpest_65 (q := 66) rfl ?_
          refine v_iload hC rfl dX6_sharpest_66 (q := 68) rfl ?_
          refine v_iload_n hC rfl dX6_sharpest_68 (q := 69) rfl ?_
          refine v_icmp_le hC dX6_sharpest_69 (t := 77) rfl (q := 72) rfl (fun h69 => ?_) (fun h69 => ?_)
          · refine v_iload_n hC rfl dX6_sharpest_77 (q := 78) rfl ?_
            refine v_istore_3 hC rfl dX6_sharpest_78 (q := 79) rfl ?_
            refine v_iinc_4 hC (v := _ + 1) rfl rfl dX6_sharpest_79 (q := 82) rfl ?_
            refine v_goto hC dX6_sharpest_82 (t := 34) rfl ?_
            exact absurd h69 h56
          · refine v_iload hC rfl dX6_sharpest_72 (q := 74) rfl ?_
            refine v_goto hC dX6_sharpest_74 (t := 78) rfl ?_
            refine v_istore_3 hC rfl dX6_sharpest_78 (q := 79) rfl ?_
            refine v_iinc_4 hC (v := _ + 1) rfl rfl dX6_sharpest_79 (q := 82) rfl ?_
            refine v_goto hC dX6_sharpest_82 (t := 34) rfl ?_
            refine v_weak (lv' := [some (.ref (ga X 47)), some (.int (nI K)), some (.int (nI j)), some (.int (allF (nI j) (pv (goN n m K) j) n)), some (.int (nI j + 1)), none]) ⟨rfl, rfl, rfl, rfl, rfl, trivial⟩ ?_
            refine v_same rfl ?_ rfl ih
            rw [shaF, if_pos (Int32.not_le.mp h56)]
            simp [nI_1, m1N]
    exact loop 0 (Nat.zero_le _)
  refine v_iload_n hC rfl dX6_sharpest_0 (q := 1) rfl ?_
  refine v_i2l hC dX6_sharpest_1 (q := 2) rfl ?_
  refine v_iconst hC (v := 0) rfl dX6_sharpest_2 (q := 3) rfl ?_
  refine v_bipush hC (v := 100) rfl dX6_sharpest_3 (q := 5) rfl ?_
  refine v_Si hC lkS_X6_41 c_X6_in rfl (by decide) rfl (Nat.le_of_ble_eq_true rfl) dX6_sharpest_5 (q := 8) rfl ?_
  rintro _ _ ⟨⟨hc5, rfl⟩ | ⟨hc5, rfl⟩, rfl⟩
  · refine v_if_ne hC dX6_sharpest_8 (t := 18) rfl (q := 11) rfl (fun _ => ?_) (fun h => absurd h (by decide))
    obtain ⟨K, _, hK, rfl⟩ := w_of' (a := 0) (N := 100) (by decide) (by decide) hc5.1 hc5.2
    have hcl : (nI K).toNatClampNeg = K := nI_clamp (by omega)
    refine v_aload_n hC rfl dX6_sharpest_18 (q := 19) rfl ?_
    refine v_Vv hC lkV_X6_123 c_X6_thinks rfl (by decide) (k := 47) (by decide) hp_47 rfl rfl (Nat.le_of_ble_eq_true rfl) dX6_sharpest_19 (q := 22) rfl ?_
    rintro _ rfl
    refine v_aload_n hC rfl dX6_sharpest_22 (q := 23) rfl ?_
    refine v_iload_n hC rfl dX6_sharpest_23 (q := 24) rfl ?_
    refine v_Vv hC lkV_X6_105 (c_X6_goesFor hN h8 (k := K) (by omega)) rfl (by decide) (k := 47) (by decide) hp_47 rfl rfl (Nat.le_of_ble_eq_true rfl) dX6_sharpest_24 (q := 27) rfl ?_
    rintro _ rfl
    refine v_iconst hC (v := (-1)) rfl dX6_sharpest_27 (q := 28) rfl ?_
    refine v_istore_2 hC rfl dX6_sharpest_28 (q := 29) rfl ?_
    refine v_iconst hC (v := (-1)) rfl dX6_sharpest_29 (q := 30) rfl ?_
    refine v_istore_3 hC rfl dX6_sharpest_30 (q := 31) rfl ?_
    refine v_iconst hC (v := 0) rfl dX6_sharpest_31 (q := 32) rfl ?_
    refine v_istore_4 hC rfl dX6_sharpest_32 (q := 34) rfl ?_
    exact main K (by omega) rfl hc5
  · refine v_if_ne hC dX6_sharpest_8 (t := 18) rfl (q := 11) rfl (fun h => absurd h (by decide)) (fun _ => ?_)
    refine v_aload_n hC rfl dX6_sharpest_11 (q := 12) rfl ?_
    refine v_ldc hC wk_X6_35 dX6_sharpest_12 (q := 14) rfl ?_
    refine v_Vi hC lkV_X6_37 (c_X6_finds (n := 0) (by decide)) rfl (by decide) (k := 47) (by decide) hp_47 rfl rfl (Nat.le_of_ble_eq_true rfl) dX6_sharpest_14 (q := 17) rfl ?_
    rintro _ _ ⟨rfl, rfl⟩
    refine hR _ _ _ _ ?_ dX6_sharpest_17
    (refine ⟨?_, r 2, ?_⟩ <;> (simp [S_sharpest, ansI, fnR, hc5, up_id]; done))
