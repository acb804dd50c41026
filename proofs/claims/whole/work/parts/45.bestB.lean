theorem nI_prd {d : Nat} : nI (d + 1) - 1 = nI d := by
  rw [← nI_1]; simp
theorem nI_dec {d : Nat} : nI d + (-1) = nI d - 1 := by rw [Int32.sub_eq_add_neg]
theorem okV_a {v : Nat → Int32} (h : okV v) {x : Int32} (hx : -1 ≤ x) : okV (upd v 2 x) := ⟨h.1, h.2.1, hx, h.2.2.2⟩
set_option maxHeartbeats 4000000 in
set_option maxRecDepth 100000 in
theorem c_X5_most {l : Launch} {X : Gx} {M : MS} {q nu : Nat → Nat → Int32} {vc : Nat → Nat → Nat → Int32} {sb : Nat → Nat → Int32} {tp by_ : Nat → Int32} {sh : Nat → Nat → Int32} {nn : Nat → Nat → Int64} {fo : Nat → Int32} {kp : Int32} {n : Nat} (hN : q 0 1 = nI n) (h8 : n ≤ 8) (hnu : ∀ p, p < n → nu 0 p = nI p) (hok : ∀ p, p < n → okV (vc 0 p)) {p k : Int32} : Ci l X yX5_most cX5_most 5 (some .int) (rmk 5 109) [.ref (ga X 0), .int p, .int k] (ch X M q nu vc sb tp by_ sh nn fo kp) (fun z g => z = ansI (S_most n (vc 0) p k) ∧ ∃ q2 n2 v2 sb2, g = ch X M (va_up q 2 q2) (va_up nu 2 n2) (va_up vc 2 v2) sb2 tp by_ sh nn (fnF fo (S_most n (vc 0) p k)) kp) := by
  refine ct_i (own := RX5) (lv := [some (.ref (ga X 0)), some (.int p), some (.int k), none, none]) (by decide) rfl (Nat.le_of_ble_eq_true rfl) (Nat.le_of_ble_eq_true rfl) rfl (fun C hC hR => ?_)
  have hix : ∀ P, P < n → pIx n (nI P) = some P := fun P h => pIx_nI h h8
  have hno : ∀ p, (¬ ∃ P, P < n ∧ p = nI P) → pIx n p = none := fun p h => pIx_no h8 h
  have main : ∀ P, P < n → p = nI P → ∀ K, K ≤ 60 → k = nI K → (1 ≤ nI K ∧ nI K ≤ 60) → (nI K).toNatClampNeg = K → ∀ tk tw, V l X (rmk 5 109) C (trH X M q nu vc sb tp by_ sh nn fo kp (tk) (tw)) 29 [some (.ref (ga X 0)), some (.int (nI P)), some (.int (nI K)), some (.int (nI (100 - 0) - 1)), none] [] := by
    intro P hP hpe K hK hke hkk hcl
    have hx := hix P hP
    have hS : S_most n (vc 0) p k = orN (mst (nI P) (vc 0 P) K) := by simp only [S_most, hpe, hke, hx, if_pos hkk, hcl]
    have loop : ∀ j, j ≤ 100 → ∀ tk tw, mst (nI P) (vc 0 P) K = grtF (fun x => decide (itD (nI P) (upd (vc 0 P) 1 (nI x)) K 1 = 0)) (100 - j) → V l X (rmk 5 109) C (trH X M q nu vc sb tp by_ sh nn fo kp (tk) (tw)) 29 [some (.ref (ga X 0)), some (.int (nI P)), some (.int (nI K)), some (.int (nI (100 - j) - 1)), none] [] := by
      refine v_up 100 ?_ ?_
      · intro tk tw
        intro hI
        have hI : mst (nI P) (vc 0 P) K = none := hI
        refine v_iload_n hC rfl dX5_most_29 (q := 30) rfl ?_
        refine v_if_lt hC dX5_most_30 (t := 68) rfl (q := 33) rfl (fun _ => ?_) (fun h => absurd (by decide) h)
        refine v_aload_n hC rfl dX5_most_68 (q := 69) rfl ?_
        refine v_ldc hC wk_X5_176 dX5_most_69 (q := 71) rfl ?_
        refine v_Vi hC lkV_X5_56 (c_X5_finding (n := 3) (by decide)) rfl (by decide) (k := 0) (by decide) ch_0 rfl rfl (Nat.le_of_ble_eq_true rfl) dX5_most_71 (q := 74) rfl ?_
        rintro _ _ ⟨rfl, rfl⟩
        refine hR _ _ _ _ ?_ dX5_most_74
        refine ⟨?_, q 2, upd (nu 2) 8 tk, va_up (vc 2) 8 (tw), sb, ?_⟩
        · rw [hS, hI]; rfl
        · rw [up_id, hS, hI]; rfl
      · intro j hj ih tk tw hI
        obtain ⟨d, hd⟩ : ∃ d, 100 - j = d + 1 := ⟨99 - j, by omega⟩
        have hd2 : 100 - (j + 1) = d := by omega
        rw [hd] at hI ⊢
        rw [hd2] at ih
        rw [grtF] at hI
        rw [nI_prd]
        refine v_iload_n hC rfl dX5_most_29 (q := 30) rfl ?_
        refine v_if_lt hC dX5_most_30 (t := 68) rfl (q := 33) rfl (fun h => absurd h (nI_pos (by omega))) (fun _ => ?_)
        refine v_aload_n hC rfl dX5_most_33 (q := 34) rfl ?_
        refine v_iload_n hC rfl dX5_most_34 (q := 35) rfl ?_
        refine v_Vr hC lkV_X5_148 (c_X5_trialOf_T (P := P) (by omega)) rfl (by decide) (k := 0) (by decide) ch_0 rfl rfl (Nat.le_of_ble_eq_true rfl) dX5_most_35 (q := 38) rfl ?_
        rintro _ _ ⟨rfl, rfl⟩
        refine v_astore_4 hC rfl dX5_most_38 (q := 40) rfl ?_
        refine v_aload hC rfl dX5_most_40 (q := 42) rfl ?_
        refine v_iload_n hC rfl dX5_most_42 (q := 43) rfl ?_
        refine v_putN hC nl_X5_98 pt_0_2 (k := 4 + 11 * 2 + 8) (by decide) tr_o8 (Nat.le_of_ble_eq_true rfl) rfl rfl (tr_f1 _) dX5_most_43 (q := 46) rfl ?_
        refine v_aload hC rfl dX5_most_46 (q := 48) rfl ?_
        refine v_iload_n hC rfl dX5_most_48 (q := 49) rfl ?_
        refine v_Vv hC lkV_X5_151 (c_X0_letDaysGo_T (okV_g (hok _ hP) (nI_rng (a := 99) (by omega) (by decide))) (by omega)) rfl (by decide) (k := 4 + 11 * 2 + 8) (by decide) tr_o8 rfl rfl (Nat.le_of_ble_eq_true rfl) dX5_most_49 (q := 52) rfl ?_
        rintro _ rfl
        refine v_aload hC rfl dX5_most_52 (q := 54) rfl ?_
        rw [hnu _ hP]
        refine v_getN hC nl_X5_98 (k := 4 + 11 * 2 + 8) (by decide) tr_o8 rfl dX5_most_54 (q := 57) rfl ?_
        refine v_if_ne hC dX5_most_57 (t := 62) rfl (q := 60) rfl (fun h57 => ?_) (fun h57 => ?_)
        · refine v_iinc_3 hC (v := _ + (-1)) rfl (iinc_m1 _) dX5_most_62 (q := 65) rfl ?_
          refine v_goto hC dX5_most_65 (t := 29) rfl ?_
          refine v_weak (lv' := [some (.ref (ga X 0)), some (.int (nI P)), some (.int (nI K)), some (.int (nI d + (-1))), none]) ⟨rfl, rfl, rfl, rfl, trivial⟩ ?_
          refine v_same rfl ?_ rfl (ih _ _ ?_)
          · rw [nI_dec]
          · rw [hI, if_neg (by simp only [decide_eq_true_eq]; exact h57)]
        · refine v_iload_n hC rfl dX5_most_60 (q := 61) rfl ?_
          refine hR _ _ _ _ ?_ dX5_most_61
          rw [if_pos (by simp only [decide_eq_true_eq]; exact h57)] at hI
          refine ⟨?_, q 2, upd (nu 2) 8 (nI P), va_up (vc 2) 8 (itD (nI P) (upd (vc 0 P) 1 (nI d)) K), sb, ?_⟩
          · rw [hS, hI]; rfl
          · rw [up_id, hS, hI]; rfl
    exact fun tk tw => loop 0 (by decide) tk tw (mst_eq _ _ _)
  refine v_aload_n hC rfl dX5_most_0 (q := 1) rfl ?_
  refine v_iload_n hC rfl dX5_most_1 (q := 2) rfl ?_
  refine v_Vi hC lkV_X5_73 (c_X5_isThere hN h8) rfl (by decide) (k := 0) (by decide) ch_0 rfl rfl (Nat.le_of_ble_eq_true rfl) dX5_most_2 (q := 5) rfl ?_
  rintro _ _ ⟨⟨⟨P2, hP2, rfl⟩, rfl⟩ | ⟨hc2, rfl⟩, rfl⟩
  · refine v_if_eq hC dX5_most_5 (t := 19) rfl (q := 8) rfl (fun h => absurd h (by decide)) (fun _ => ?_)
    refine v_iload_n hC rfl dX5_most_8 (q := 9) rfl ?_
    refine v_iconst hC (v := 1) rfl dX5_most_9 (q := 10) rfl ?_
    refine v_icmp_lt hC dX5_most_10 (t := 19) rfl (q := 13) rfl (fun h10 => ?_) (fun h10 => ?_)
    · refine v_aload_n hC rfl dX5_most_19 (q := 20) rfl ?_
      refine v_ldc hC wk_X5_55 dX5_most_20 (q := 22) rfl ?_
      refine v_Vi hC lkV_X5_56 (c_X5_finding (n := 0) (by decide)) rfl (by decide) (k := 0) (by decide) ch_0 rfl rfl (Nat.le_of_ble_eq_true rfl) dX5_most_22 (q := 25) rfl ?_
      rintro _ _ ⟨rfl, rfl⟩
      refine hR _ _ _ _ ?_ dX5_most_25
      have hkk : ¬ (1 ≤ k ∧ k ≤ 60) := fun z => Int32.not_le.mpr h10 z.1
      refine ⟨?_, q 2, nu 2, vc 2, sb, ?_⟩
      · simp only [S_most, ansI, fnF, hix _ hP2, if_neg hkk]
      · rw [up_id, up_id, up_id]
        simp only [S_most, ansI, fnF, hix _ hP2, if_neg hkk]
    · refine v_iload_n hC rfl dX5_most_13 (q := 14) rfl ?_
      refine v_bipush hC (v := 60) rfl dX5_most_14 (q := 16) rfl ?_
      refine v_icmp_le hC dX5_most_16 (t := 26) rfl (q := 19) rfl (fun h16 => ?_) (fun h16 => ?_)
      · obtain ⟨K, hK1, hK, rfl⟩ := w_of' (a := 1) (N := 60) (by decide) (by decide) (Int32.not_lt.mp h10) h16
        have hcl : (nI K).toNatClampNeg = K := nI_clamp (by omega)
        have hkk : 1 ≤ nI K ∧ nI K ≤ 60 := ⟨Int32.not_lt.mp h10, h16⟩
        rw [tr0]
        refine v_bipush hC (v := 99) rfl dX5_most_26 (q := 28) rfl ?_
        refine v_istore_3 hC rfl dX5_most_28 (q := 29) rfl ?_
        exact main P2 hP2 rfl K hK rfl hkk hcl _ _
      · refine v_aload_n hC rfl dX5_most_19 (q := 20) rfl ?_
        refine v_ldc hC wk_X5_55 dX5_most_20 (q := 22) rfl ?_
        refine v_Vi hC lkV_X5_56 (c_X5_finding (n := 0) (by decide)) rfl (by decide) (k := 0) (by decide) ch_0 rfl rfl (Nat.le_of_ble_eq_true rfl) dX5_most_22 (q := 25) rfl ?_
        rintro _ _ ⟨rfl, rfl⟩
        refine hR _ _ _ _ ?_ dX5_most_25
        have hkk : ¬ (1 ≤ k ∧ k ≤ 60) := fun z => h16 z.2
        refine ⟨?_, q 2, nu 2, vc 2, sb, ?_⟩
        · simp only [S_most, ansI, fnF, hix _ hP2, if_neg hkk]
        · rw [up_id, up_id, up_id]
          simp only [S_most, ansI, fnF, hix _ hP2, if_neg hkk]
  · refine v_if_eq hC dX5_most_5 (t := 19) rfl (q := 8) rfl (fun _ => ?_) (fun h => absurd h (by decide))
    refine v_aload_n hC rfl dX5_most_19 (q := 20) rfl ?_
    refine v_ldc hC wk_X5_55 dX5_most_20 (q := 22) rfl ?_
    refine v_Vi hC lkV_X5_56 (c_X5_finding (n := 0) (by decide)) rfl (by decide) (k := 0) (by decide) ch_0 rfl rfl (Nat.le_of_ble_eq_true rfl) dX5_most_22 (q := 25) rfl ?_
    rintro _ _ ⟨rfl, rfl⟩
    refine hR _ _ _ _ ?_ dX5_most_25
    refine ⟨?_, q 2, nu 2, vc 2, sb, ?_⟩
    · simp only [S_most, ansI, fnF, hno _ hc2]
    · rw [up_id, up_id, up_id]
      simp only [S_most, ansI, fnF, hno _ hc2]

theorem at_up {j : Nat} : nI (j + 1) - 1 = nI j - 1 + 1 := by rw [nI_prd, Int32.sub_add_cancel]
theorem one_sub (x : Int32) : 1 + (x - 1) = x := by rw [Int32.add_comm, Int32.sub_add_cancel]
theorem at_ge {j : Nat} (h : j ≤ 8) : -1 ≤ nI j - 1 := by
  rw [fa_le, n8 ⟨j, by omega⟩]
  show (-1 : Int) ≤ (j : Int) - 1
  omega
set_option maxHeartbeats 4000000 in
set_option maxRecDepth 100000 in
theorem c_X5_better {l : Launch} {X : Gx} {M : MS} {q nu : Nat → Nat → Int32} {vc : Nat → Nat → Nat → Int32} {sb : Nat → Nat → Int32} {tp by_ : Nat → Int32} {sh : Nat → Nat → Int32} {nn : Nat → Nat → Int64} {fo : Nat → Int32} {kp : Int32} {n : Nat} (hN : q 0 1 = nI n) (h8 : n ≤ 8) (hnu : ∀ p, p < n → nu 0 p = nI p) (hok : ∀ p, p < n → okV (vc 0 p)) {p k : Int32} : Ci l X yX5_better cX5_better 7 (some .int) (rmk 5 109) [.ref (ga X 0), .int p, .int k] (ch X M q nu vc sb tp by_ sh nn fo kp) (fun z g => z = ansI (S_better n (vc 0) p k) ∧ ∃ q2 n2 v2 sb2, g = ch X M (va_up q 2 q2) (va_up nu 2 n2) (va_up vc 2 v2) sb2 tp by_ sh nn (fnF fo (S_better n (vc 0) p k)) kp) := by
  refine ct_i (own := RX5) (lv := [some (.ref (ga X 0)), some (.int p), some (.int k), none, none, none, none]) (by decide) rfl (Nat.le_of_ble_eq_true rfl) (Nat.le_of_ble_eq_true rfl) rfl (fun C hC hR => ?_)
  have hix : ∀ P, P < n → pIx n (nI P) = some P := fun P h => pIx_nI h h8
  have hno : ∀ p, (¬ ∃ P, P < n ∧ p = nI P) → pIx n p = none := fun p h => pIx_no h8 h
  have main : ∀ P, P < n → p = nI P → ∀ K, K ≤ 60 → k = nI K → (1 ≤ nI K ∧ nI K ≤ 60) → (nI K).toNatClampNeg = K → ∀ tk tw, V l X (rmk 5 109) C (trH X M q nu vc sb tp by_ sh nn fo kp (tk) (tw)) 35 [some (.ref (ga X 0)), some (.int (nI P)), some (.int (nI K)), some (.int ((leaF (fun t => itD (nI P) (upd (vc 0 P) 2 (nI t - 1)) K 1) 0).1)), some (.int (nI (leaF (fun t => itD (nI P) (upd (vc 0 P) 2 (nI t - 1)) K 1) 0).2 - 1)), some (.int (nI 0 - 1)), none] [] := by
    intro P hP hpe K hK hke hkk hcl
    have hx := hix P hP
    have hS : S_better n (vc 0) p k = .inr (nI (leaF (fun t => itD (nI P) (upd (vc 0 P) 2 (nI t - 1)) K 1) (n + 1)).2) := by simp only [S_better, hpe, hke, hx, if_pos hkk, hcl]
    have loop : ∀ j, j ≤ (n + 1) → ∀ tk tw, V l X (rmk 5 109) C (trH X M q nu vc sb tp by_ sh nn fo kp (tk) (tw)) 35 [some (.ref (ga X 0)), some (.int (nI P)), some (.int (nI K)), some (.int ((leaF (fun t => itD (nI P) (upd (vc 0 P) 2 (nI t - 1)) K 1) j).1)), some (.int (nI (leaF (fun t => itD (nI P) (upd (vc 0 P) 2 (nI t - 1)) K 1) j).2 - 1)), some (.int (nI j - 1)), none] [] := by
      refine v_up (n + 1) ?_ ?_
      · intro tk tw
        refine v_iload hC rfl dX5_better_35 (q := 37) rfl ?_
        refine v_aload_n hC rfl dX5_better_37 (q := 38) rfl ?_
        refine v_get hC fl_X5_12 (k := 0) (by decide) ch_0 rfl dX5_better_38 (q := 41) rfl ?_
        refine v_getN hC nl_X5_173 (k := 1 + 11 * 0) (by decide) (ch_q (b := 0) (by decide)) rfl dX5_better_41 (q := 44) rfl ?_
        refine v_icmp_ge hC dX5_better_44 (t := 92) rfl (q := 47) rfl (fun _ => ?_) (fun h => absurd (by rw [hN, nI_prd]; exact Int32.le_refl _) h)
        refine v_iconst hC (v := 1) rfl dX5_better_92 (q := 93) rfl ?_
        refine v_iload hC rfl dX5_better_93 (q := 95) rfl ?_
        refine v_iadd hC dX5_better_95 (q := 96) rfl ?_
        refine hR _ _ _ _ ?_ dX5_better_96
        refine ⟨?_, q 2, upd (nu 2) 8 tk, va_up (vc 2) 8 tw, sb, ?_⟩
        · rw [hS]; exact one_sub _
        · rw [up_id, hS]; rfl
      · intro j hj ih tk tw
        refine v_iload hC rfl dX5_better_35 (q := 37) rfl ?_
        refine v_aload_n hC rfl dX5_better_37 (q := 38) rfl ?_
        refine v_get hC fl_X5_12 (k := 0) (by decide) ch_0 rfl dX5_better_38 (q := 41) rfl ?_
        refine v_getN hC nl_X5_173 (k := 1 + 11 * 0) (by decide) (ch_q (b := 0) (by decide)) rfl dX5_better_41 (q := 44) rfl ?_
        refine v_icmp_ge hC dX5_better_44 (t := 92) rfl (q := 47) rfl (fun h => absurd h (by rw [hN]; exact n8' (by omega) h8)) (fun _ => ?_)
        refine v_aload_n hC rfl dX5_better_47 (q := 48) rfl ?_
        refine v_iload_n hC rfl dX5_better_48 (q := 49) rfl ?_
        refine v_Vr hC lkV_X5_148 (c_X5_trialOf_T (P := P) (by omega)) rfl (by decide) (k := 0) (by decide) ch_0 rfl rfl (Nat.le_of_ble_eq_true rfl) dX5_better_49 (q := 52) rfl ?_
        rintro _ _ ⟨rfl, rfl⟩
        refine v_astore_6 hC rfl dX5_better_52 (q := 54) rfl ?_
        refine v_aload hC rfl dX5_better_54 (q := 56) rfl ?_
        refine v_iload hC rfl dX5_better_56 (q := 58) rfl ?_
        refine v_putN hC nl_X5_101 pt_0_3 (k := 4 + 11 * 2 + 8) (by decide) tr_o8 (Nat.le_of_ble_eq_true rfl) rfl rfl (tr_f2 _) dX5_better_58 (q := 61) rfl ?_
        refine v_aload hC rfl dX5_better_61 (q := 63) rfl ?_
        refine v_iload_n hC rfl dX5_better_63 (q := 64) rfl ?_
        refine v_Vv hC lkV_X5_151 (c_X0_letDaysGo_T (okV_a (hok _ hP) (at_ge (by omega))) (by omega)) rfl (by decide) (k := 4 + 11 * 2 + 8) (by decide) tr_o8 rfl rfl (Nat.le_of_ble_eq_true rfl) dX5_better_64 (q := 67) rfl ?_
        rintro _ rfl
        refine v_aload hC rfl dX5_better_67 (q := 69) rfl ?_
        rw [hnu _ hP]
        refine v_getN hC nl_X5_98 (k := 4 + 11 * 2 + 8) (by decide) tr_o8 rfl dX5_better_69 (q := 72) rfl ?_
        refine v_iload_n hC rfl dX5_better_72 (q := 73) rfl ?_
        refine v_icmp_ge hC dX5_better_73 (t := 86) rfl (q := 76) rfl (fun h73 => ?_) (fun h73 => ?_)
        · refine v_iinc_5 hC (v := _ + 1) rfl rfl dX5_better_86 (q := 89) rfl ?_
          refine v_goto hC dX5_better_89 (t := 35) rfl ?_
          refine v_weak (lv' := [some (.ref (ga X 0)), some (.int (nI P)), some (.int (nI K)), some (.int ((leaF (fun t => itD (nI P) (upd (vc 0 P) 2 (nI t - 1)) K 1) j).1)), some (.int (nI (leaF (fun t => itD (nI P) (upd (vc 0 P) 2 (nI t - 1)) K 1) j).2 - 1)), some (.int (nI j - 1 + 1)), none]) ⟨rfl, rfl, rfl, rfl, rfl, rfl, trivial⟩ ?_
          refine v_same rfl ?_ rfl (ih _ _)
          rw [leaF, if_neg (Int32.not_lt.mpr h73), at_up]
        · refine v_aload hC rfl dX5_better_76 (q := 78) rfl ?_
          refine v_getN hC nl_X5_98 (k := 4 + 11 * 2 + 8) (by decide) tr_o8 rfl dX5_better_78 (q := 81) rfl ?_
          refine v_istore_3 hC rfl dX5_better_81 (q := 82) rfl ?_
          refine v_iload hC rfl dX5_better_82 (q := 84) rfl ?_
          refine v_istore_4 hC rfl dX5_better_84 (q := 86) rfl ?_
          refine v_iinc_5 hC (v := _ + 1) rfl rfl dX5_better_86 (q := 89) rfl ?_
          refine v_goto hC dX5_better_89 (t := 35) rfl ?_
          refine v_weak (lv' := [some (.ref (ga X 0)), some (.int (nI P)), some (.int (nI K)), some (.int ((fun t => itD (nI P) (upd (vc 0 P) 2 (nI t - 1)) K 1) j)), some (.int (nI j - 1)), some (.int (nI j - 1 + 1)), none]) ⟨rfl, rfl, rfl, rfl, rfl, rfl, trivial⟩ ?_
          refine v_same rfl ?_ rfl (ih _ _)
          rw [leaF, if_pos (Int32.not_le.mp h73), at_up]
    exact loop 0 (Nat.zero_le _)
  refine v_aload_n hC rfl dX5_better_0 (q := 1) rfl ?_
  refine v_iload_n hC rfl dX5_better_1 (q := 2) rfl ?_
  refine v_Vi hC lkV_X5_73 (c_X5_isThere hN h8) rfl (by decide) (k := 0) (by decide) ch_0 rfl rfl (Nat.le_of_ble_eq_true rfl) dX5_better_2 (q := 5) rfl ?_
  rintro _ _ ⟨⟨⟨P2, hP2, rfl⟩, rfl⟩ | ⟨hc2, rfl⟩, rfl⟩
  · refine v_if_eq hC dX5_better_5 (t := 19) rfl (q := 8) rfl (fun h => absurd h (by decide)) (fun _ => ?_)
    refine v_iload_n hC rfl dX5_better_8 (q := 9) rfl ?_
    refine v_iconst hC (v := 1) rfl dX5_better_9 (q := 10) rfl ?_
    refine v_icmp_lt hC dX5_better_10 (t := 19) rfl (q := 13) rfl (fun h10 => ?_) (fun h10 => ?_)
    · refine v_aload_n hC rfl dX5_better_19 (q := 20) rfl ?_
      refine v_ldc hC wk_X5_55 dX5_better_20 (q := 22) rfl ?_
      refine v_Vi hC lkV_X5_56 (c_X5_finding (n := 0) (by decide)) rfl (by decide) (k := 0) (by decide) ch_0 rfl rfl (Nat.le_of_ble_eq_true rfl) dX5_better_22 (q := 25) rfl ?_
      rintro _ _ ⟨rfl, rfl⟩
      refine hR _ _ _ _ ?_ dX5_better_25
      have hkk : ¬ (1 ≤ k ∧ k ≤ 60) := fun z => Int32.not_le.mpr h10 z.1
      refine ⟨?_, q 2, nu 2, vc 2, sb, ?_⟩
      · simp only [S_better, ansI, fnF, hix _ hP2, if_neg hkk]
      · rw [up_id, up_id, up_id]
        simp only [S_better, ansI, fnF, hix _ hP2, if_neg hkk]
    · refine v_iload_n hC rfl dX5_better_13 (q := 14) rfl ?_
      refine v_bipush hC (v := 60) rfl dX5_better_14 (q := 16) rfl ?_
      refine v_icmp_le hC dX5_better_16 (t := 26) rfl (q := 19) rfl (fun h16 => ?_) (fun h16 => ?_)
      · obtain ⟨K, hK1, hK, rfl⟩ := w_of' (a := 1) (N := 60) (by decide) (by decide) (Int32.not_lt.mp h10) h16
        have hcl : (nI K).toNatClampNeg = K := nI_clamp (by omega)
        have hkk : 1 ≤ nI K ∧ nI K ≤ 60 := ⟨Int32.not_lt.mp h10, h16⟩
        rw [tr0]
        refine v_bipush hC (v := 100) rfl dX5_better_26 (q := 28) rfl ?_
        refine v_istore_3 hC rfl dX5_better_28 (q := 29) rfl ?_
        refine v_iconst hC (v := (-1)) rfl dX5_better_29 (q := 30) rfl ?_
        refine v_istore_4 hC rfl dX5_better_30 (q := 32) rfl ?_
        refine v_iconst hC (v := (-1)) rfl dX5_better_32 (q := 33) rfl ?_
        refine v_istore_5 hC rfl dX5_better_33 (q := 35) rfl ?_
        exact main P2 hP2 rfl K hK rfl hkk hcl _ _
      · refine v_aload_n hC rfl dX5_better_19 (q := 20) rfl ?_
        refine v_ldc hC wk_X5_55 dX5_better_20 (q := 22) rfl ?_
        refine v_Vi hC lkV_X5_56 (c_X5_finding (n := 0) (by decide)) rfl (by decide) (k := 0) (by decide) ch_0 rfl rfl (Nat.le_of_ble_eq_true rfl) dX5_better_22 (q := 25) rfl ?_
        rintro _ _ ⟨rfl, rfl⟩
        refine hR _ _ _ _ ?_ dX5_better_25
        have hkk : ¬ (1 ≤ k ∧ k ≤ 60) := fun z => h16 z.2
        refine ⟨?_, q 2, nu 2, vc 2, sb, ?_⟩
        · simp only [S_better, ansI, fnF, hix _ hP2, if_neg hkk]
        · rw [up_id, up_id, up_id]
          simp only [S_better, ansI, fnF, hix _ hP2, if_neg hkk]
  · refine v_if_eq hC dX5_better_5 (t := 19) rfl (q := 8) rfl (fun _ => ?_) (fun h => absurd h (by decide))
    refine v_aload_n hC rfl dX5_better_19 (q := 20) rfl ?_
    refine v_ldc hC wk_X5_55 dX5_better_20 (q := 22) rfl ?_
    refine v_Vi hC lkV_X5_56 (c_X5_finding (n := 0) (by decide)) rfl (by decide) (k := 0) (by decide) ch_0 rfl rfl (Nat.le_of_ble_eq_true rfl) dX5_better_22 (q := 25) rfl ?_
    rintro _ _ ⟨rfl, rfl⟩
    refine hR _ _ _ _ ?_ dX5_better_25
    refine ⟨?_, q 2, nu 2, vc 2, sb, ?_⟩
    · simp only [S_better, ansI, fnF, hno _ hc2]
    · rw [up_id, up_id, up_id]
      simp only [S_better, ansI, fnF, hno _ hc2]
