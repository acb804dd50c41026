set_option maxHeartbeats 4000000 in
set_option maxRecDepth 100000 in
theorem c_X6_item {l : Launch} {X : Gx} {S : CS} {m : Nat → Int32} {r : Nat → Nat → Int32} {c : Nat → Int64} {a0 : Int32} {T : Nat} (hT : T ≤ 120) {p : Nat} (hp1 : p ≤ T) {n : Nat} (hN : m 1 = nI n) (h8 : n ≤ 8) : Cv l X yX6_item cX6_item 3 (none) (rmk 6 137) [.ref (ga X 47)] (hp X S (iv [a0, nI T, tkK (r 4) T (p), nI (tkS (r 4) T (p)), nI (tkE (r 4) T (p)), tkV (r 4) T (p), 0], m, r, c)) (fun g => (∃ m2 p2 n2, p2 ≤ T ∧ itemS (r 4) T n m p = .inr (m2, p2) ∧ m2 1 = nI n2 ∧ n2 ≤ 8 ∧ g = hp X S (iv [a0, nI T, tkK (r 4) T (p2), nI (tkS (r 4) T (p2)), nI (tkE (r 4) T (p2)), tkV (r 4) T (p2), 0], m2, r, c)) ∨ (∃ q m2, q ≤ T ∧ itemS (r 4) T n m p = .inl q ∧ g = hp X S (iv [a0, nI T, tkK (r 4) T (q), nI (tkS (r 4) T (q)), nI (tkE (r 4) T (q)), tkV (r 4) T (q), 1], m2, r, c))) := by
  refine ct_v (own := RX6) (lv := [some (.ref (ga X 47)), none, none]) (by decide) rfl (Nat.le_of_ble_eq_true rfl) (Nat.le_of_ble_eq_true rfl) rfl (fun C hC hR => ?_)
  have hE := (tkE_le (t := r 4) hp1).2
  have hE2 := (tkE_le (t := r 4) hE).2
  refine v_aload_n hC rfl dX6_item_0 (q := 1) rfl ?_
  refine v_get hC fl_X6_170 (k := 47) (by decide) hp_47v rfl dX6_item_1 (q := 4) rfl ?_
  refine v_iconst hC (v := 5) rfl dX6_item_4 (q := 5) rfl ?_
  refine v_icmp_gt hC dX6_item_5 (t := 15) rfl (q := 8) rfl (fun h5 => ?_) (fun h5 => ?_)
  · refine v_aload_n hC rfl dX6_item_15 (q := 16) rfl ?_
    refine v_bipush hC (v := 8) rfl dX6_item_16 (q := 18) rfl ?_
    refine v_Vi hC lkV_X6_183 (c_X6_passes hT hp1) rfl (by decide) (k := 47) (by decide) hp_47 rfl rfl (Nat.le_of_ble_eq_true rfl) dX6_item_18 (q := 21) rfl ?_
    rintro _ _ (⟨hc18, rfl, rfl⟩ | ⟨hc18, rfl, rfl⟩)
    · refine v_if_eq hC dX6_item_21 (t := 31) rfl (q := 24) rfl (fun h => absurd h (by decide)) (fun _ => ?_)
      refine v_aload_n hC rfl dX6_item_24 (q := 25) rfl ?_
      refine v_Vv hC lkV_X6_196 (c_X6_grindItem hT hE hN h8) rfl (by decide) (k := 47) (by decide) hp_47 rfl rfl (Nat.le_of_ble_eq_true rfl) dX6_item_25 (q := 28) rfl ?_
      rintro _ (⟨m25, p25, n25, hq25, hs25, hm25, hn25, rfl⟩ | ⟨p25, m25, hq25, hs25, rfl⟩)
      · refine v_goto hC dX6_item_28 (t := 104) rfl ?_
        refine hR _ _ _ ?_ dX6_item_104
        have k5 : ¬ tkK (r 4) T p ≤ 5 := Int32.not_le.mpr h5
        exact Or.inl ⟨_, _, _, hq25, by simp only [itemS, if_neg k5, if_pos hc18, hs25], hm25, hn25, rfl⟩
      · refine v_goto hC dX6_item_28 (t := 104) rfl ?_
        refine hR _ _ _ ?_ dX6_item_104
        have k5 : ¬ tkK (r 4) T p ≤ 5 := Int32.not_le.mpr h5
        exact Or.inr ⟨_, _, hq25, by simp only [itemS, if_neg k5, if_pos hc18, hs25], rfl⟩
    · refine v_if_eq hC dX6_item_21 (t := 31) rfl (q := 24) rfl (fun _ => ?_) (fun h => absurd h (by decide))
      refine v_aload_n hC rfl dX6_item_31 (q := 32) rfl ?_
      refine v_get hC fl_X6_170 (k := 47) (by decide) hp_47v rfl dX6_item_32 (q := 35) rfl ?_
      refine v_bipush hC (v := 9) rfl dX6_item_35 (q := 37) rfl ?_
      refine v_icmp_eq hC dX6_item_37 (t := 49) rfl (q := 40) rfl (fun h37 => ?_) (fun h37 => ?_)
      · refine v_aload_n hC rfl dX6_item_49 (q := 50) rfl ?_
        refine v_get hC fl_X6_170 (k := 47) (by decide) hp_47v rfl dX6_item_50 (q := 53) rfl ?_
        refine v_bipush hC (v := 9) rfl dX6_item_53 (q := 55) rfl ?_
        refine v_icmp_ne hC dX6_item_55 (t := 62) rfl (q := 58) rfl (fun h55 => ?_) (fun h55 => ?_)
        · refine v_iconst hC (v := 0) rfl dX6_item_62 (q := 63) rfl ?_
          refine v_istore_1 hC rfl dX6_item_63 (q := 64) rfl ?_
          refine v_aload_n hC rfl dX6_item_64 (q := 65) rfl ?_
          refine v_Vv hC lkV_X6_180 (c_X6_reads hT (by first | assumption | omega)) rfl (by decide) (k := 47) (by decide) hp_47 rfl rfl (Nat.le_of_ble_eq_true rfl) dX6_item_65 (q := 68) rfl ?_
          rintro _ rfl
          refine v_aload_n hC rfl dX6_item_68 (q := 69) rfl ?_
          refine v_iconst hC (v := 0) rfl dX6_item_69 (q := 70) rfl ?_
          refine v_aload_n hC rfl dX6_item_70 (q := 71) rfl ?_
          refine v_get hC fl_X6_9 (k := 47) (by decide) hp_47v rfl dX6_item_71 (q := 74) rfl ?_
          refine v_iconst hC (v := 1) rfl dX6_item_74 (q := 75) rfl ?_
          refine v_iald hC (k := 48) (by decide) hp_48 (vp_l (by decide)) (j := 1) rfl dX6_item_75 (q := 76) rfl ?_
          rw [hN]
          refine v_iconst hC (v := 1) rfl dX6_item_76 (q := 77) rfl ?_
          refine v_isub hC dX6_item_77 (q := 78) rfl ?_
          refine v_Vi hC lkV_X6_186 (c_X6_number hT hE) rfl (by decide) (k := 47) (by decide) hp_47 rfl rfl (Nat.le_of_ble_eq_true rfl) dX6_item_78 (q := 81) rfl ?_
          rintro _ _ (⟨hn78, rfl, rfl⟩ | ⟨hn78, rfl, rfl⟩)
          · refine v_istore_2 hC rfl dX6_item_81 (q := 82) rfl ?_
            refine v_aload_n hC rfl dX6_item_82 (q := 83) rfl ?_
            refine v_get hC fl_X6_176 (k := 47) (by decide) hp_47v rfl dX6_item_83 (q := 86) rfl ?_
            refine v_if_ne hC dX6_item_86 (t := 96) rfl (q := 89) rfl (fun h => absurd (by decide) h) (fun _ => ?_)
            obtain ⟨P, hP, hv⟩ := (isP_iff h8).mp hn78.2
            rw [hv]
            refine v_aload_n hC rfl dX6_item_89 (q := 90) rfl ?_
            refine v_iload_n hC rfl dX6_item_90 (q := 91) rfl ?_
            refine v_iconst hC (v := 3) rfl dX6_item_91 (q := 92) rfl ?_
            refine v_iload_n hC rfl dX6_item_92 (q := 93) rfl ?_
            refine v_Vv hC lkV_X6_63 (c_X6_put (p := P) (w := 3) (by omega) (by decide)) rfl (by decide) (k := 47) (by decide) hp_47 rfl rfl (Nat.le_of_ble_eq_true rfl) dX6_item_93 (q := 96) rfl ?_
            rintro _ rfl
            refine v_goto hC dX6_item_96 (t := 104) rfl ?_
            refine hR _ _ _ ?_ dX6_item_104
            exact absurd h37 h55
          · refine v_istore_2 hC rfl dX6_item_81 (q := 82) rfl ?_
            refine v_aload_n hC rfl dX6_item_82 (q := 83) rfl ?_
            refine v_get hC fl_X6_176 (k := 47) (by decide) hp_47v rfl dX6_item_83 (q := 86) rfl ?_
            refine v_if_ne hC dX6_item_86 (t := 96) rfl (q := 89) rfl (fun _ => ?_) (fun h => absurd h (by decide))
            refine v_goto hC dX6_item_96 (t := 104) rfl ?_
            refine hR _ _ _ ?_ dX6_item_104
            exact absurd h37 h55
        · refine v_iconst hC (v := 1) rfl dX6_item_58 (q := 59) rfl ?_
          refine v_goto hC dX6_item_59 (t := 63) rfl ?_
          refine v_istore_1 hC rfl dX6_item_63 (q := 64) rfl ?_
          refine v_aload_n hC rfl dX6_item_64 (q := 65) rfl ?_
          refine v_Vv hC lkV_X6_180 (c_X6_reads hT (by first | assumption | omega)) rfl (by decide) (k := 47) (by decide) hp_47 rfl rfl (Nat.le_of_ble_eq_true rfl) dX6_item_65 (q := 68) rfl ?_
          rintro _ rfl
          refine v_aload_n hC rfl dX6_item_68 (q := 69) rfl ?_
          refine v_iconst hC (v := 0) rfl dX6_item_69 (q := 70) rfl ?_
          refine v_aload_n hC rfl dX6_item_70 (q := 71) rfl ?_
          refine v_get hC fl_X6_9 (k := 47) (by decide) hp_47v rfl dX6_item_71 (q := 74) rfl ?_
          refine v_iconst hC (v := 1) rfl dX6_item_74 (q := 75) rfl ?_
          refine v_iald hC (k := 48) (by decide) hp_48 (vp_l (by decide)) (j := 1) rfl dX6_item_75 (q := 76) rfl ?_
          rw [hN]
          refine v_iconst hC (v := 1) rfl dX6_item_76 (q := 77) rfl ?_
          refine v_isub hC dX6_item_77 (q := 78) rfl ?_
          refine v_Vi hC lkV_X6_186 (c_X6_number hT hE) rfl (by decide) (k := 47) (by decide) hp_47 rfl rfl (Nat.le_of_ble_eq_true rfl) dX6_item_78 (q := 81) rfl ?_
          rintro _ _ (⟨hn78, rfl, rfl⟩ | ⟨hn78, rfl, rfl⟩)
          · refine v_istore_2 hC rfl dX6_item_81 (q := 82) rfl ?_
            refine v_aload_n hC rfl dX6_item_82 (q := 83) rfl ?_
            refine v_get hC fl_X6_176 (k := 47) (by decide) hp_47v rfl dX6_item_83 (q := 86) rfl ?_
            refine v_if_ne hC dX6_item_86 (t := 96) rfl (q := 89) rfl (fun h => absurd (by decide) h) (fun _ => ?_)
            obtain ⟨P, hP, hv⟩ := (isP_iff h8).mp hn78.2
            rw [hv]
            refine v_aload_n hC rfl dX6_item_89 (q := 90) rfl ?_
            refine v_iload_n hC rfl dX6_item_90 (q := 91) rfl ?_
            refine v_iconst hC (v := 3) rfl dX6_item_91 (q := 92) rfl ?_
            refine v_iload_n hC rfl dX6_item_92 (q := 93) rfl ?_
            refine v_Vv hC lkV_X6_63 (c_X6_put (p := P) (w := 3) (by omega) (by decide)) rfl (by decide) (k := 47) (by decide) hp_47 rfl rfl (Nat.le_of_ble_eq_true rfl) dX6_item_93 (q := 96) rfl ?_
            rintro _ rfl
            refine v_goto hC dX6_item_96 (t := 104) rfl ?_
            refine hR _ _ _ ?_ dX6_item_104
            have k5 : ¬ tkK (r 4) T p ≤ 5 := Int32.not_le.mpr h5
            exact Or.inl ⟨pu m P 3 1, _, n, hE2, by simp only [itemS, if_neg k5, if_neg hc18, if_pos h37, upI, if_pos hn78.1, hv, pIx_nI hP h8], pu_1.trans hN, h8, rfl⟩
          · refine v_istore_2 hC rfl dX6_item_81 (q := 82) rfl ?_
            refine v_aload_n hC rfl dX6_item_82 (q := 83) rfl ?_
            refine v_get hC fl_X6_176 (k := 47) (by decide) hp_47v rfl dX6_item_83 (q := 86) rfl ?_
            refine v_if_ne hC dX6_item_86 (t := 96) rfl (q := 89) rfl (fun _ => ?_) (fun h => absurd h (by decide))
            refine v_goto hC dX6_item_96 (t := 104) rfl ?_
            refine hR _ _ _ ?_ dX6_item_104
            have k5 : ¬ tkK (r 4) T p ≤ 5 := Int32.not_le.mpr h5
            refine Or.inr ⟨_, _, hE, ?_, rfl⟩
            simp only [itemS, if_neg k5, if_neg hc18, if_pos h37, upI]
            by_cases h20 : tkK (r 4) T (tkE (r 4) T p) = 20
            · rw [if_pos h20, pIx_no h8 (fun z => hn78 ⟨h20, (isP_iff h8).mpr z⟩)]
            · rw [if_neg h20]
      · refine v_aload_n hC rfl dX6_item_40 (q := 41) rfl ?_
        refine v_get hC fl_X6_170 (k := 47) (by decide) hp_47v rfl dX6_item_41 (q := 44) rfl ?_
        refine v_bipush hC (v := 10) rfl dX6_item_44 (q := 46) rfl ?_
        refine v_icmp_ne hC dX6_item_46 (t := 99) rfl (q := 49) rfl (fun h46 => ?_) (fun h46 => ?_)
        · refine v_aload_n hC rfl dX6_item_99 (q := 100) rfl ?_
          refine v_iconst hC (v := 1) rfl dX6_item_100 (q := 101) rfl ?_
          refine v_put hC fl_X6_176 pt_5_11 (k := 47) (by decide) hp_47v (Nat.le_of_ble_eq_true rfl) rfl rfl (hpv_6 _) dX6_item_101 (q := 104) rfl ?_
          refine hR _ _ _ ?_ dX6_item_104
          have k5 : ¬ tkK (r 4) T p ≤ 5 := Int32.not_le.mpr h5
          exact Or.inr ⟨_, _, hp1, by simp only [itemS, if_neg k5, if_neg hc18, if_neg h37, if_neg h46], rfl⟩
        · refine v_aload_n hC rfl dX6_item_49 (q := 50) rfl ?_
          refine v_get hC fl_X6_170 (k := 47) (by decide) hp_47v rfl dX6_item_50 (q := 53) rfl ?_
          refine v_bipush hC (v := 9) rfl dX6_item_53 (q := 55) rfl ?_
          refine v_icmp_ne hC dX6_item_55 (t := 62) rfl (q := 58) rfl (fun h55 => ?_) (fun h55 => ?_)
          · refine v_iconst hC (v := 0) rfl dX6_item_62 (q := 63) rfl ?_
            refine v_istore_1 hC rfl dX6_item_63 (q := 64) rfl ?_
            refine v_aload_n hC rfl dX6_item_64 (q := 65) rfl ?_
            refine v_Vv hC lkV_X6_180 (c_X6_reads hT (by first | assumption | omega)) rfl (by decide) (k := 47) (by decide) hp_47 rfl rfl (Nat.le_of_ble_eq_true rfl) dX6_item_65 (q := 68) rfl ?_
            rintro _ rfl
            refine v_aload_n hC rfl dX6_item_68 (q := 69) rfl ?_
            refine v_iconst hC (v := 0) rfl dX6_item_69 (q := 70) rfl ?_
            refine v_aload_n hC rfl dX6_item_70 (q := 71) rfl ?_
            refine v_get hC fl_X6_9 (k := 47) (by decide) hp_47v rfl dX6_item_71 (q := 74) rfl ?_
            refine v_iconst hC (v := 1) rfl dX6_item_74 (q := 75) rfl ?_
            refine v_iald hC (k := 48) (by decide) hp_48 (vp_l (by decide)) (j := 1) rfl dX6_item_75 (q := 76) rfl ?_
            rw [hN]
            refine v_iconst hC (v := 1) rfl dX6_item_76 (q := 77) rfl ?_
            refine v_isub hC dX6_item_77 (q := 78) rfl ?_
            refine v_Vi hC lkV_X6_186 (c_X6_number hT hE) rfl (by decide) (k := 47) (by decide) hp_47 rfl rfl (Nat.le_of_ble_eq_true rfl) dX6_item_78 (q := 81) rfl ?_
            rintro _ _ (⟨hn78, rfl, rfl⟩ | ⟨hn78, rfl, rfl⟩)
            · refine v_istore_2 hC rfl dX6_item_81 (q := 82) rfl ?_
              refine v_aload_n hC rfl dX6_item_82 (q := 83) rfl ?_
              refine v_get hC fl_X6_176 (k := 47) (by decide) hp_47v rfl dX6_item_83 (q := 86) rfl ?_
              refine v_if_ne hC dX6_item_86 (t := 96) rfl (q := 89) rfl (fun h => absurd (by decide) h) (fun _ => ?_)
              obtain ⟨P, hP, hv⟩ := (isP_iff h8).mp hn78.2
              rw [hv]
              refine v_aload_n hC rfl dX6_item_89 (q := 90) rfl ?_
              refine v_iload_n hC rfl dX6_item_90 (q := 91) rfl ?_
              refine v_iconst hC (v := 3) rfl dX6_item_91 (q := 92) rfl ?_
              refine v_iload_n hC rfl dX6_item_92 (q := 93) rfl ?_
              refine v_Vv hC lkV_X6_63 (c_X6_put (p := P) (w := 3) (by omega) (by decide)) rfl (by decide) (k := 47) (by decide) hp_47 rfl rfl (Nat.le_of_ble_eq_true rfl) dX6_item_93 (q := 96) rfl ?_
              rintro _ rfl
              refine v_goto hC dX6_item_96 (t := 104) rfl ?_
              refine hR _ _ _ ?_ dX6_item_104
              have k5 : ¬ tkK (r 4) T p ≤ 5 := Int32.not_le.mpr h5
              exact Or.inl ⟨pu m P 3 0, _, n, hE2, by simp only [itemS, if_neg k5, if_neg hc18, if_neg h37, if_pos h46, upI, if_pos hn78.1, hv, pIx_nI hP h8], pu_1.trans hN, h8, rfl⟩
            · refine v_istore_2 hC rfl dX6_item_81 (q := 82) rfl ?_
              refine v_aload_n hC rfl dX6_item_82 (q := 83) rfl ?_
              refine v_get hC fl_X6_176 (k := 47) (by decide) hp_47v rfl dX6_item_83 (q := 86) rfl ?_
              refine v_if_ne hC dX6_item_86 (t := 96) rfl (q := 89) rfl (fun _ => ?_) (fun h => absurd h (by decide))
              refine v_goto hC dX6_item_96 (t := 104) rfl ?_
              refine hR _ _ _ ?_ dX6_item_104
              have k5 : ¬ tkK (r 4) T p ≤ 5 := Int32.not_le.mpr h5
              refine Or.inr ⟨_, _, hE, ?_, rfl⟩
              simp only [itemS, if_neg k5, if_neg hc18, if_neg h37, if_pos h46, upI]
              by_cases h20 : tkK (r 4) T (tkE (r 4) T p) = 20
              · rw [if_pos h20, pIx_no h8 (fun z => hn78 ⟨h20, (isP_iff h8).mpr z⟩)]
              · rw [if_neg h20]
          · refine v_iconst hC (v := 1) rfl dX6_item_58 (q := 59) rfl ?_
            refine v_goto hC dX6_item_59 (t := 63) rfl ?_
            refine v_istore_1 hC rfl dX6_item_63 (q := 64) rfl ?_
            refine v_aload_n hC rfl dX6_item_64 (q := 65) rfl ?_
            refine v_Vv hC lkV_X6_180 (c_X6_reads hT (by first | assumption | omega)) rfl (by decide) (k := 47) (by decide) hp_47 rfl rfl (Nat.le_of_ble_eq_true rfl) dX6_item_65 (q := 68) rfl ?_
            rintro _ rfl
            refine v_aload_n hC rfl dX6_item_68 (q := 69) rfl ?_
            refine v_iconst hC (v := 0) rfl dX6_item_69 (q := 70) rfl ?_
            refine v_aload_n hC rfl dX6_item_70 (q := 71) rfl ?_
            refine v_get hC fl_X6_9 (k := 47) (by decide) hp_47v rfl dX6_item_71 (q := 74) rfl ?_
            refine v_iconst hC (v := 1) rfl dX6_item_74 (q := 75) rfl ?_
            refine v_iald hC (k := 48) (by decide) hp_48 (vp_l (by decide)) (j := 1) rfl dX6_item_75 (q := 76) rfl ?_
            rw [hN]
            refine v_iconst hC (v := 1) rfl dX6_item_76 (q := 77) rfl ?_
            refine v_isub hC dX6_item_77 (q := 78) rfl ?_
            refine v_Vi hC lkV_X6_186 (c_X6_number hT hE) rfl (by decide) (k := 47) (by decide) hp_47 rfl rfl (Nat.le_of_ble_eq_true rfl) dX6_item_78 (q := 81) rfl ?_
            rintro _ _ (⟨hn78, rfl, rfl⟩ | ⟨hn78, rfl, rfl⟩)
            · refine v_istore_2 hC rfl dX6_item_81 (q := 82) rfl ?_
              refine v_aload_n hC rfl dX6_item_82 (q := 83) rfl ?_
              refine v_get hC fl_X6_176 (k := 47) (by decide) hp_47v rfl dX6_item_83 (q := 86) rfl ?_
              refine v_if_ne hC dX6_item_86 (t := 96) rfl (q := 89) rfl (fun h => absurd (by decide) h) (fun _ => ?_)
              obtain ⟨P, hP, hv⟩ := (isP_iff h8).mp hn78.2
              rw [hv]
              refine v_aload_n hC rfl dX6_item_89 (q := 90) rfl ?_
              refine v_iload_n hC rfl dX6_item_90 (q := 91) rfl ?_
              refine v_iconst hC (v := 3) rfl dX6_item_91 (q := 92) rfl ?_
              refine v_iload_n hC rfl dX6_item_92 (q := 93) rfl ?_
              refine v_Vv hC lkV_X6_63 (c_X6_put (p := P) (w := 3) (by omega) (by decide)) rfl (by decide) (k := 47) (by decide) hp_47 rfl rfl (Nat.le_of_ble_eq_true rfl) dX6_item_93 (q := 96) rfl ?_
              rintro _ rfl
              refine v_goto hC dX6_item_96 (t := 104) rfl ?_
              refine hR _ _ _ ?_ dX6_item_104
              exact absurd h55 h37
            · refine v_istore_2 hC rfl dX6_item_81 (q := 82) rfl ?_
              refine v_aload_n hC rfl dX6_item_82 (q := 83) rfl ?_
              refine v_get hC fl_X6_176 (k := 47) (by decide) hp_47v rfl dX6_item_83 (q := 86) rfl ?_
              refine v_if_ne hC dX6_item_86 (t := 96) rfl (q := 89) rfl (fun _ => ?_) (fun h => absurd h (by decide))
              refine v_goto hC dX6_item_96 (t := 104) rfl ?_
              refine hR _ _ _ ?_ dX6_item_104
              exact absurd h55 h37
  · refine v_aload_n hC rfl dX6_item_8 (q := 9) rfl ?_
    refine v_Vv hC lkV_X6_193 (c_X6_personItem hT hp1 hN h8) rfl (by decide) (k := 47) (by decide) hp_47 rfl rfl (Nat.le_of_ble_eq_true rfl) dX6_item_9 (q := 12) rfl ?_
    rintro _ (⟨m9, p9, n9, hq9, hs9, hm9, hn9, rfl⟩ | ⟨p9, m9, hq9, hs9, rfl⟩)
    · refine v_goto hC dX6_item_12 (t := 104) rfl ?_
      refine hR _ _ _ ?_ dX6_item_104
      have k5 : tkK (r 4) T p ≤ 5 := Int32.not_lt.mp h5
      exact Or.inl ⟨_, _, _, hq9, by simp only [itemS, if_pos k5, hs9], hm9, hn9, rfl⟩
    · refine v_goto hC dX6_item_12 (t := 104) rfl ?_
      refine hR _ _ _ ?_ dX6_item_104
      have k5 : tkK (r 4) T p ≤ 5 := Int32.not_lt.mp h5
      exact Or.inr ⟨_, _, hq9, by simp only [itemS, if_pos k5, hs9], rfl⟩

theorem perS_ge {t : Nat → Int32} {T p p2 : Nat} {w lo hi so v : Int32} (hp : p ≤ T) (h : perS t T p w lo hi so = .inr (v, p2)) : p ≤ p2 ∧ p2 ≤ T := by
  have h1 := tkE_le (t := t) hp
  have h2 := tkS_le (t := t) hp
  have h3 := tkE_le (t := t) h1.2
  have h4 := tkS_le (t := t) h1.2
  unfold perS at h
  split at h
  · split at h
    · cases h; omega
    · cases h
  · cases h; omega
/-- an item that can stand ends behind where it began -/
theorem itemS_gt {t : Nat → Int32} {T n : Nat} {m m2 : Nat → Int32} {p p2 : Nat} (hp : p ≤ T) (h : itemS t T n m p = .inr (m2, p2)) : p < p2 := by
  have h1 := tkE_le (t := t) hp
  have h2 := tkS_le (t := t) hp
  have h3 := tkE_le (t := t) h1.2
  have h4 := tkS_le (t := t) h1.2
  have hg : ∀ x, tkK t T p = x → x ≠ 22 → p < tkE t T p := fun x e1 e2 => tkE_gt hp (fun e => e2 (e1.symm.trans e))
  unfold itemS at h
  split at h
  · rename_i hk
    have hlt : p < tkE t T p := tkE_gt hp (fun e => by rw [e] at hk; exact absurd hk (by decide))
    unfold perI at h
    split at h
    · cases h
    · cases e1 : perS t T (tkE t T p) 6 0 99 20 with
      | inl q => rw [e1] at h; cases h
      | inr x =>
        obtain ⟨g, q⟩ := x
        have g1 := perS_ge h1.2 e1
        rw [e1] at h
        dsimp only at h
        cases e2 : perS t T q 7 0 (nI n) (-1) with
        | inl q => rw [e2] at h; cases h
        | inr x =>
          obtain ⟨w, q3⟩ := x
          have g2 := perS_ge g1.2 e2
          rw [e2] at h
          cases h
          omega
  · split at h
    · have := hg _ (by assumption) (by decide)
      unfold griI at h
      split at h
      · split at h
        · cases h
        · split at h
          · cases h
          · cases h; omega
      · cases h
    · split at h
      · have := hg _ (by assumption) (by decide)
        unfold upI at h
        split at h
        · split at h
          · cases h
          · cases h; omega
        · cases h
      · split at h
        · have := hg _ (by assumption) (by decide)
          unfold upI at h
          split at h
          · split at h
            · cases h
            · cases h; omega
          · cases h
        · cases h
set_option maxHeartbeats 4000000 in
set_option maxRecDepth 100000 in
theorem c_X6_quay {l : Launch} {X : Gx} {S : CS} {i m : Nat → Int32} {r : Nat → Nat → Int32} {c : Nat → Int64} {n : Nat} (hN : m 1 = nI n) (h8 : n ≤ 8) {T : Nat} (hi1 : i 1 = nI T) (hT : T ≤ 120) : Ci l X yX6_quay cX6_quay 2 (some .int) (rmk 7 159) [.ref (ga X 47)] (hp X S (i, m, r, c)) (fun z g => z = S_quay (r 4) T n m ∧ ∃ i2 W, i2 0 = i 0 ∧ i2 1 = 0 ∧ g = hp X S (i2, M_quay (r 4) T n m, va_up r 2 W, c)) := by
  refine ct_i (own := RX6) (lv := [some (.ref (ga X 47)), none]) (by decide) rfl (Nat.le_of_ble_eq_true rfl) (Nat.le_of_ble_eq_true rfl) rfl (fun C hC hR => ?_)
  have r4 : va_up r 2 m 4 = r 4 := va_up_ne _ _ (by decide)
  obtain ⟨Res, hRes⟩ : ∃ R0, R0 = parF (va_up r 2 m 4) T 121 1 n m 0 := ⟨_, rfl⟩
  have bad : ∀ k q m2, q ≤ T → Res = .inl q → V l X (rmk 7 159) C (hp X S (iv [i 0, nI T, tkK (va_up r 2 m 4) T (q), nI (tkS (va_up r 2 m 4) T (q)), nI (tkE (va_up r 2 m 4) T (q)), tkV (va_up r 2 m 4) T (q), 1], m2, va_up r 2 m, c)) 24 [some (.ref (ga X 47)), some (.int (k))] [] := by
    intro k q m2 hq hI
    refine v_aload_n hC rfl dX6_quay_24 (q := 25) rfl ?_
    refine v_bipush hC (v := 21) rfl dX6_quay_25 (q := 27) rfl ?_
    refine v_Vi hC lkV_X6_183 (c_X6_passes1 (r := va_up r 2 m) hT) rfl (by decide) (k := 47) (by decide) hp_47 rfl rfl (Nat.le_of_ble_eq_true rfl) dX6_quay_27 (q := 30) rfl ?_
    rintro _ _ (⟨rfl, rfl⟩)
    · refine v_if_eq hC dX6_quay_30 (t := 43) rfl (q := 33) rfl (fun _ => ?_) (fun h => absurd h (by decide))
      refine v_aload_n hC rfl dX6_quay_43 (q := 44) rfl ?_
      refine v_aload_n hC rfl dX6_quay_44 (q := 45) rfl ?_
      refine v_get hC fl_X6_176 (k := 47) (by decide) hp_47v rfl dX6_quay_45 (q := 48) rfl ?_
      refine v_if_ne hC dX6_quay_48 (t := 60) rfl (q := 51) rfl (fun _ => ?_) (fun h => absurd h (by decide))
      refine v_iconst hC (v := 1) rfl dX6_quay_60 (q := 61) rfl ?_
      refine v_goto hC dX6_quay_61 (t := 65) rfl ?_
      refine v_put hC fl_X6_176 pt_5_11 (k := 47) (by decide) hp_47v (Nat.le_of_ble_eq_true rfl) rfl rfl (hpv_6 _) dX6_quay_65 (q := 68) rfl ?_
      refine v_aload_n hC rfl dX6_quay_68 (q := 69) rfl ?_
      refine v_iconst hC (v := 0) rfl dX6_quay_69 (q := 70) rfl ?_
      refine v_put hC fl_X6_147 pt_5_6 (k := 47) (by decide) hp_47v (Nat.le_of_ble_eq_true rfl) rfl rfl (hpv_1 _) dX6_quay_70 (q := 73) rfl ?_
      refine v_aload_n hC rfl dX6_quay_73 (q := 74) rfl ?_
      refine v_get hC fl_X6_176 (k := 47) (by decide) hp_47v rfl dX6_quay_74 (q := 77) rfl ?_
      refine v_if_ne hC dX6_quay_77 (t := 82) rfl (q := 80) rfl (fun _ => ?_) (fun h => absurd h (by decide))
      refine v_aload_n hC rfl dX6_quay_82 (q := 83) rfl ?_
      refine v_Vv hC lkV_X6_126 c_X6_putsBack rfl (by decide) (k := 47) (by decide) hp_47 rfl rfl (Nat.le_of_ble_eq_true rfl) dX6_quay_83 (q := 86) rfl ?_
      rintro _ rfl
      rw [va_up_self]
      refine v_iconst hC (v := (-1)) rfl dX6_quay_86 (q := 87) rfl ?_
      refine v_aload_n hC rfl dX6_quay_87 (q := 88) rfl ?_
      refine v_get hC fl_X6_154 (k := 47) (by decide) hp_47v rfl dX6_quay_88 (q := 91) rfl ?_
      refine v_isub hC dX6_quay_91 (q := 92) rfl ?_
      refine hR _ _ _ _ ?_ dX6_quay_92
      rw [← r4]
      exact ⟨by simp only [S_quay, ← hRes, hI], iv [i 0, 0, tkK (va_up r 2 m 4) T (q), nI (tkS (va_up r 2 m 4) T (q)), nI (tkE (va_up r 2 m 4) T (q)), tkV (va_up r 2 m 4) T (q), 1], m, rfl, rfl, by simp only [M_quay, ← hRes, hI]⟩
  have good : ∀ f k n2 m2 p2, p2 ≤ T → T - p2 < f → m2 1 = nI n2 → n2 ≤ 8 → Res = (if tkK (va_up r 2 m 4) T p2 = 21 then parF (va_up r 2 m 4) T f (k + 1) (m2 1).toNatClampNeg m2 (tkE (va_up r 2 m 4) T p2) else if tkK (va_up r 2 m 4) T p2 = 22 then .inr (m2, k) else .inl p2) → V l X (rmk 7 159) C (hp X S (iv [i 0, nI T, tkK (va_up r 2 m 4) T (p2), nI (tkS (va_up r 2 m 4) T (p2)), nI (tkE (va_up r 2 m 4) T (p2)), tkV (va_up r 2 m 4) T (p2), 0], m2, va_up r 2 m, c)) 24 [some (.ref (ga X 47)), some (.int (nI k))] [] := by
    intro f
    induction f with
    | zero => intro k n2 m2 p2 hq hf; omega
    | succ f ih =>
      intro k n2 m2 p2 hq hf hm hn hI
      have hE := (tkE_le (t := va_up r 2 m 4) hq).2
      rw [hm, nI_clamp (by omega)] at hI
      refine v_aload_n hC rfl dX6_quay_24 (q := 25) rfl ?_
      refine v_bipush hC (v := 21) rfl dX6_quay_25 (q := 27) rfl ?_
      refine v_Vi hC lkV_X6_183 (c_X6_passes (r := va_up r 2 m) hT hq) rfl (by decide) (k := 47) (by decide) hp_47 rfl rfl (Nat.le_of_ble_eq_true rfl) dX6_quay_27 (q := 30) rfl ?_
      rintro _ _ (⟨hc27, rfl, rfl⟩ | ⟨hc27, rfl, rfl⟩)
      · refine v_if_eq hC dX6_quay_30 (t := 43) rfl (q := 33) rfl (fun h => absurd h (by decide)) (fun _ => ?_)
        refine v_aload_n hC rfl dX6_quay_33 (q := 34) rfl ?_
        refine v_Vv hC lkV_X6_199 (c_X6_item (r := va_up r 2 m) hT hE hm hn) rfl (by decide) (k := 47) (by decide) hp_47 rfl rfl (Nat.le_of_ble_eq_true rfl) dX6_quay_34 (q := 37) rfl ?_
        rintro _ (⟨m34, p34, n34, hq34, hs34, hm34, hn34, rfl⟩ | ⟨p34, m34, hq34, hs34, rfl⟩)
        · refine v_iinc_1 hC (v := _ + 1) rfl rfl dX6_quay_37 (q := 40) rfl ?_
          refine v_goto hC dX6_quay_40 (t := 24) rfl ?_
          have hc27 : tkK (va_up r 2 m 4) T p2 = 21 := hc27
          have hs34 : itemS (va_up r 2 m 4) T n2 m2 (tkE (va_up r 2 m 4) T p2) = .inr (m34, p34) := hs34
          have hgt : p2 < tkE (va_up r 2 m 4) T p2 := tkE_gt hq (by intro z; rw [z] at hc27; exact absurd hc27 (by decide))
          rw [if_pos hc27, parF] at hI
          rw [hs34] at hI
          rw [nI_1]
          exact ih (k + 1) n34 m34 p34 hq34 (by have := itemS_gt hE hs34; omega) hm34 hn34 hI
        · refine v_iinc_1 hC (v := _ + 1) rfl rfl dX6_quay_37 (q := 40) rfl ?_
          refine v_goto hC dX6_quay_40 (t := 24) rfl ?_
          have hc27 : tkK (va_up r 2 m 4) T p2 = 21 := hc27
          have hs34 : itemS (va_up r 2 m 4) T n2 m2 (tkE (va_up r 2 m 4) T p2) = .inl p34 := hs34
          have hgt : p2 < tkE (va_up r 2 m 4) T p2 := tkE_gt hq (by intro z; rw [z] at hc27; exact absurd hc27 (by decide))
          rw [if_pos hc27, parF] at hI
          rw [hs34] at hI
          exact bad _ _ _ hq34 hI
      · refine v_if_eq hC dX6_quay_30 (t := 43) rfl (q := 33) rfl (fun _ => ?_) (fun h => absurd h (by decide))
        refine v_aload_n hC rfl dX6_quay_43 (q := 44) rfl ?_
        refine v_aload_n hC rfl dX6_quay_44 (q := 45) rfl ?_
        refine v_get hC fl_X6_176 (k := 47) (by decide) hp_47v rfl dX6_quay_45 (q := 48) rfl ?_
        refine v_if_ne hC dX6_quay_48 (t := 60) rfl (q := 51) rfl (fun h => absurd (by decide) h) (fun _ => ?_)
        refine v_aload_n hC rfl dX6_quay_51 (q := 52) rfl ?_
        refine v_get hC fl_X6_170 (k := 47) (by decide) hp_47v rfl dX6_quay_52 (q := 55) rfl ?_
        refine v_bipush hC (v := 22) rfl dX6_quay_55 (q := 57) rfl ?_
        refine v_icmp_eq hC dX6_quay_57 (t := 64) rfl (q := 60) rfl (fun h57 => ?_) (fun h57 => ?_)
        · refine v_iconst hC (v := 0) rfl dX6_quay_64 (q := 65) rfl ?_
          refine v_put hC fl_X6_176 pt_5_11 (k := 47) (by decide) hp_47v (Nat.le_of_ble_eq_true rfl) rfl rfl (hpv_6 _) dX6_quay_65 (q := 68) rfl ?_
          refine v_aload_n hC rfl dX6_quay_68 (q := 69) rfl ?_
          refine v_iconst hC (v := 0) rfl dX6_quay_69 (q := 70) rfl ?_
          refine v_put hC fl_X6_147 pt_5_6 (k := 47) (by decide) hp_47v (Nat.le_of_ble_eq_true rfl) rfl rfl (hpv_1 _) dX6_quay_70 (q := 73) rfl ?_
          refine v_aload_n hC rfl dX6_quay_73 (q := 74) rfl ?_
          refine v_get hC fl_X6_176 (k := 47) (by decide) hp_47v rfl dX6_quay_74 (q := 77) rfl ?_
          refine v_if_ne hC dX6_quay_77 (t := 82) rfl (q := 80) rfl (fun h => absurd (by decide) h) (fun _ => ?_)
          refine v_iload_n hC rfl dX6_quay_80 (q := 81) rfl ?_
          refine hR _ _ _ _ ?_ dX6_quay_81
          rw [if_neg hc27, if_pos h57] at hI
          rw [← r4]
          exact ⟨by simp only [S_quay, ← hRes, hI], iv [i 0, 0, tkK (va_up r 2 m 4) T (p2), nI (tkS (va_up r 2 m 4) T (p2)), nI (tkE (va_up r 2 m 4) T (p2)), tkV (va_up r 2 m 4) T (p2), 0], m, rfl, rfl, by simp only [M_quay, ← hRes, hI]⟩
        · refine v_iconst hC (v := 1) rfl dX6_quay_60 (q := 61) rfl ?_
          refine v_goto hC dX6_quay_61 (t := 65) rfl ?_
          refine v_put hC fl_X6_176 pt_5_11 (k := 47) (by decide) hp_47v (Nat.le_of_ble_eq_true rfl) rfl rfl (hpv_6 _) dX6_quay_65 (q := 68) rfl ?_
          refine v_aload_n hC rfl dX6_quay_68 (q := 69) rfl ?_
          refine v_iconst hC (v := 0) rfl dX6_quay_69 (q := 70) rfl ?_
          refine v_put hC fl_X6_147 pt_5_6 (k := 47) (by decide) hp_47v (Nat.le_of_ble_eq_true rfl) rfl rfl (hpv_1 _) dX6_quay_70 (q := 73) rfl ?_
          refine v_aload_n hC rfl dX6_quay_73 (q := 74) rfl ?_
          refine v_get hC fl_X6_176 (k := 47) (by decide) hp_47v rfl dX6_quay_74 (q := 77) rfl ?_
          refine v_if_ne hC dX6_quay_77 (t := 82) rfl (q := 80) rfl (fun _ => ?_) (fun h => absurd h (by decide))
          refine v_aload_n hC rfl dX6_quay_82 (q := 83) rfl ?_
          refine v_Vv hC lkV_X6_126 c_X6_putsBack rfl (by decide) (k := 47) (by decide) hp_47 rfl rfl (Nat.le_of_ble_eq_true rfl) dX6_quay_83 (q := 86) rfl ?_
          rintro _ rfl
          rw [va_up_self]
          refine v_iconst hC (v := (-1)) rfl dX6_quay_86 (q := 87) rfl ?_
          refine v_aload_n hC rfl dX6_quay_87 (q := 88) rfl ?_
          refine v_get hC fl_X6_154 (k := 47) (by decide) hp_47v rfl dX6_quay_88 (q := 91) rfl ?_
          refine v_isub hC dX6_quay_91 (q := 92) rfl ?_
          refine hR _ _ _ _ ?_ dX6_quay_92
          rw [if_neg hc27, if_neg h57] at hI
          rw [← r4]
          exact ⟨by simp only [S_quay, ← hRes, hI], iv [i 0, 0, tkK (va_up r 2 m 4) T (p2), nI (tkS (va_up r 2 m 4) T (p2)), nI (tkE (va_up r 2 m 4) T (p2)), tkV (va_up r 2 m 4) T (p2), 1], m, rfl, rfl, by simp only [M_quay, ← hRes, hI]⟩
  refine v_aload_n hC rfl dX6_quay_0 (q := 1) rfl ?_
  refine v_Vv hC lkV_X6_123 c_X6_thinks rfl (by decide) (k := 47) (by decide) hp_47 rfl rfl (Nat.le_of_ble_eq_true rfl) dX6_quay_1 (q := 4) rfl ?_
  rintro _ rfl
  rw [iv_of, hi1]
  refine v_aload_n hC rfl dX6_quay_4 (q := 5) rfl ?_
  refine v_iconst hC (v := 0) rfl dX6_quay_5 (q := 6) rfl ?_
  refine v_put hC fl_X6_157 pt_5_9 (k := 47) (by decide) hp_47v (Nat.le_of_ble_eq_true rfl) rfl rfl (hpv_4 _) dX6_quay_6 (q := 9) rfl ?_
  refine v_aload_n hC rfl dX6_quay_9 (q := 10) rfl ?_
  refine v_iconst hC (v := 0) rfl dX6_quay_10 (q := 11) rfl ?_
  refine v_put hC fl_X6_176 pt_5_11 (k := 47) (by decide) hp_47v (Nat.le_of_ble_eq_true rfl) rfl rfl (hpv_6 _) dX6_quay_11 (q := 14) rfl ?_
  refine v_aload_n hC rfl dX6_quay_14 (q := 15) rfl ?_
  refine v_Vv hC lkV_X6_180 (c_X6_reads (r := va_up r 2 m) (p := 0) hT (Nat.zero_le _)) rfl (by decide) (k := 47) (by decide) hp_47 rfl rfl (Nat.le_of_ble_eq_true rfl) dX6_quay_15 (q := 18) rfl ?_
  rintro _ rfl
  refine v_aload_n hC rfl dX6_quay_18 (q := 19) rfl ?_
  refine v_Vv hC lkV_X6_199 (c_X6_item (r := va_up r 2 m) hT (Nat.zero_le _) hN h8) rfl (by decide) (k := 47) (by decide) hp_47 rfl rfl (Nat.le_of_ble_eq_true rfl) dX6_quay_19 (q := 22) rfl ?_
  rintro _ (⟨m19, p19, n19, hq19, hs19, hm19, hn19, rfl⟩ | ⟨p19, m19, hq19, hs19, rfl⟩)
  · refine v_iconst hC (v := 1) rfl dX6_quay_22 (q := 23) rfl ?_
    refine v_istore_1 hC rfl dX6_quay_23 (q := 24) rfl ?_
    have hs19 : itemS (va_up r 2 m 4) T n m 0 = .inr (m19, p19) := hs19
    refine good 120 1 n19 m19 p19 hq19 (by have := itemS_gt (Nat.zero_le T) hs19; omega) hm19 hn19 ?_
    rw [hRes, parF, hs19]
  · refine v_iconst hC (v := 1) rfl dX6_quay_22 (q := 23) rfl ?_
    refine v_istore_1 hC rfl dX6_quay_23 (q := 24) rfl ?_
    have hs19 : itemS (va_up r 2 m 4) T n m 0 = .inl p19 := hs19
    refine bad _ _ _ hq19 ?_
    rw [hRes, parF, hs19]

def bytB (b : Int32) (k : Nat) : Int32 := (b >>> (8 * nI k &&& 31)) &&& 255
def fdR (t : Nat → Int32) (T : Nat) (b : Int32) (n : Nat) : Nat → Nat → Int32
  | 0 => t
  | j + 1 => upd (fdR t T b n j) (T + j) (bytB b (n - 1 - j))
def S_feed (T : Nat) (n : Int32) : An := if 1 ≤ n ∧ n ≤ 4 then (if nI T + n ≤ 120 then .inr (nI T + n) else .inl 1) else .inl 0
def R_feed (t : Nat → Int32) (T : Nat) (b n : Int32) : Nat → Int32 := if 1 ≤ n ∧ n ≤ 4 then (if nI T + n ≤ 120 then fdR t T b n.toNatClampNeg n.toNatClampNeg else t) else t
def T_feed (T : Nat) (n : Int32) : Nat := if 1 ≤ n ∧ n ≤ 4 then (if nI T + n ≤ 120 then T + n.toNatClampNeg else T) else T
def fR2 (r : Nat → Nat → Int32) (t : Nat → Int32) (x : An) : Nat → Nat → Int32 := fnR (va_up r 4 t) x
theorem n_sub {n : Nat} (h : 1 ≤ n) : nI n - 1 = nI n + (-1) := by rw [Int32.sub_eq_add_neg]
set_option maxHeartbeats 4000000 in
set_option maxRecDepth 100000 in
theorem c_X6_feed {l : Launch} {X : Gx} {S : CS} {m : Nat → Int32} {r : Nat → Nat → Int32} {c : Nat → Int64} {a0 a2 a3 a4 a5 a6 : Int32} {T : Nat}  (hT0 : T ≤ 120) {b n : Int32} : Ci l X yX6_feed cX6_feed 4 (some .int) (rmk 1 23) [.ref (ga X 47), .int b, .int n] (hp X S (iv [a0, nI T, a2, a3, a4, a5, a6], m, r, c)) (fun z g => z = ansI (S_feed T n) ∧ g = hp X S (iv [a0, nI (T_feed T n), a2, a3, a4, a5, a6], m, fR2 r (R_feed (r 4) T b n) (S_feed T n), c)) := by
  refine ct_i (own := RX6) (lv := [some (.ref (ga X 47)), some (.int b), some (.int n), none]) (by decide) rfl (Nat.le_of_ble_eq_true rfl) (Nat.le_of_ble_eq_true rfl) rfl (fun C hC hR => ?_)
  have main : ∀ N, 1 ≤ N → N ≤ 4 → T + N ≤ 120 → n = nI N → (1 ≤ n ∧ n ≤ 4) → nI T + n ≤ 120 → V l X (rmk 1 23) C (hp X S (iv [a0, nI (T + (N - N)), a2, a3, a4, a5, a6], m, va_up r 4 (fdR (r 4) T b N (N - N)), c)) 39 [some (.ref (ga X 47)), some (.int b), some (.int (nI N)), some (.int (nI N + (-1)))] [] := by
    intro N h1 h4 hT hn hc1 hc2
    have hcl : (nI N).toNatClampNeg = N := nI_clamp (by omega)
    have loop : ∀ d, d ≤ N → V l X (rmk 1 23) C (hp X S (iv [a0, nI (T + (N - d)), a2, a3, a4, a5, a6], m, va_up r 4 (fdR (r 4) T b N (N - d)), c)) 39 [some (.ref (ga X 47)), some (.int b), some (.int (nI N)), some (.int (nI d + (-1)))] [] := by
      intro d
      induction d with
      | zero =>
        intro _
        refine v_iload_n hC rfl dX6_feed_39 (q := 40) rfl ?_
        refine v_if_lt hC dX6_feed_40 (t := 78) rfl (q := 43) rfl (fun _ => ?_) (fun h => absurd (by decide) h)
        refine v_aload_n hC rfl dX6_feed_78 (q := 79) rfl ?_
        refine v_get hC fl_X6_147 (k := 47) (by decide) hp_47v rfl dX6_feed_79 (q := 82) rfl ?_
        refine hR _ _ _ _ ?_ dX6_feed_82
        subst hn
        refine ⟨?_, ?_⟩
        · rw [S_feed, if_pos hc1, if_pos hc2, ansI, nI_add]; rfl
        · simp only [S_feed, R_feed, T_feed, if_pos hc1, if_pos hc2, fR2, fnR, hcl]; rfl
      | succ d ih =>
        intro hd
        rw [pk_m1]
        refine v_iload_n hC rfl dX6_feed_39 (q := 40) rfl ?_
        refine v_if_lt hC dX6_feed_40 (t := 78) rfl (q := 43) rfl (fun h => absurd h (nI_pos (by omega))) (fun _ => ?_)
        refine v_aload_n hC rfl dX6_feed_43 (q := 44) rfl ?_
        refine v_get hC fl_X6_22 (k := 47) (by decide) hp_47v rfl dX6_feed_44 (q := 47) rfl ?_
        refine v_aload_n hC rfl dX6_feed_47 (q := 48) rfl ?_
        refine v_get hC fl_X6_147 (k := 47) (by decide) hp_47v rfl dX6_feed_48 (q := 51) rfl ?_
        refine v_iload_n hC rfl dX6_feed_51 (q := 52) rfl ?_
        refine v_bipush hC (v := 8) rfl dX6_feed_52 (q := 54) rfl ?_
        refine v_iload_n hC rfl dX6_feed_54 (q := 55) rfl ?_
        refine v_imul hC dX6_feed_55 (q := 56) rfl ?_
        refine v_ishr hC dX6_feed_56 (q := 57) rfl ?_
        refine v_sipush hC (v := 255) rfl dX6_feed_57 (q := 60) rfl ?_
        refine v_iand hC dX6_feed_60 (q := 61) rfl ?_
        refine v_iast hC (k := 52) (by decide) hp_52 (ix120' (by omega)) (j := T + (N - (d + 1))) (nI_clamp (by omega)) (hpr_4 _) dX6_feed_61 (q := 62) rfl ?_
        refine v_aload_n hC rfl dX6_feed_62 (q := 63) rfl ?_
        refine v_dup hC rfl dX6_feed_63 (q := 64) rfl ?_
        refine v_get hC fl_X6_147 (k := 47) (by decide) hp_47v rfl dX6_feed_64 (q := 67) rfl ?_
        refine v_iconst hC (v := 1) rfl dX6_feed_67 (q := 68) rfl ?_
        refine v_iadd hC dX6_feed_68 (q := 69) rfl ?_
        refine v_put hC fl_X6_147 pt_5_6 (k := 47) (by decide) hp_47v (Nat.le_of_ble_eq_true rfl) rfl rfl (hpv_1 _) dX6_feed_69 (q := 72) rfl ?_
        refine v_iinc_3 hC (v := _ + (-1)) rfl (iinc_m1 _) dX6_feed_72 (q := 75) rfl ?_
        refine v_goto hC dX6_feed_75 (t := 39) rfl ?_
        refine v_same ?_ rfl rfl (ih (by omega))
        rw [bx_uu, va_up_self, nI_1, show T + (N - (d + 1)) + 1 = T + (N - d) by omega, show N - d = (N - (d + 1)) + 1 by omega, fdR, show N - 1 - (N - (d + 1)) = d by omega]
        rfl
    exact loop N (Nat.le_refl _)
  refine v_iload_n hC rfl dX6_feed_0 (q := 1) rfl ?_
  refine v_i2l hC dX6_feed_1 (q := 2) rfl ?_
  refine v_iconst hC (v := 1) rfl dX6_feed_2 (q := 3) rfl ?_
  refine v_iconst hC (v := 4) rfl dX6_feed_3 (q := 4) rfl ?_
  refine v_Si hC lkS_X6_41 c_X6_in rfl (by decide) rfl (Nat.le_of_ble_eq_true rfl) dX6_feed_4 (q := 7) rfl ?_
  rintro _ _ ⟨⟨hc4, rfl⟩ | ⟨hc4, rfl⟩, rfl⟩
  · refine v_if_ne hC dX6_feed_7 (t := 17) rfl (q := 10) rfl (fun _ => ?_) (fun h => absurd h (by decide))
    refine v_aload_n hC rfl dX6_feed_17 (q := 18) rfl ?_
    refine v_get hC fl_X6_147 (k := 47) (by decide) hp_47v rfl dX6_feed_18 (q := 21) rfl ?_
    refine v_iload_n hC rfl dX6_feed_21 (q := 22) rfl ?_
    refine v_iadd hC dX6_feed_22 (q := 23) rfl ?_
    refine v_bipush hC (v := 120) rfl dX6_feed_23 (q := 25) rfl ?_
    refine v_icmp_le hC dX6_feed_25 (t := 35) rfl (q := 28) rfl (fun h25 => ?_) (fun h25 => ?_)
    · obtain ⟨N, hN1, hN4, hn⟩ := w_of' (a := 1) (N := 4) (by decide) (by decide) hc4.1 hc4.2
      have hTN : T + N ≤ 120 := by
        have := h25
        rw [hn, nI_add] at this
        exact (nI_leI (b := 120) (by omega) (by decide)).mp this
      refine v_iload_n hC rfl dX6_feed_35 (q := 36) rfl ?_
      refine v_iconst hC (v := 1) rfl dX6_feed_36 (q := 37) rfl ?_
      refine v_isub hC dX6_feed_37 (q := 38) rfl ?_
      refine v_istore_3 hC rfl dX6_feed_38 (q := 39) rfl ?_
      subst hn
      refine v_same ?_ ?_ rfl (main N hN1 hN4 hTN rfl hc4 h25)
      · rw [Nat.sub_self]
        simp only [Nat.add_zero, fdR, up_id]
      · rw [n_sub hN1]
    · refine v_aload_n hC rfl dX6_feed_28 (q := 29) rfl ?_
      refine v_ldc hC wk_X6_67 dX6_feed_29 (q := 31) rfl ?_
      refine v_Vi hC lkV_X6_37 (c_X6_finds (n := 1) (by decide)) rfl (by decide) (k := 47) (by decide) hp_47 rfl rfl (Nat.le_of_ble_eq_true rfl) dX6_feed_31 (q := 34) rfl ?_
      rintro _ _ ⟨rfl, rfl⟩
      refine hR _ _ _ _ ?_ dX6_feed_34
      refine ⟨?_, ?_⟩
      · simp only [S_feed, if_pos hc4, if_neg h25, ansI]
      · simp only [S_feed, R_feed, T_feed, if_pos hc4, if_neg h25, fR2, fnR, up_id]
  · refine v_if_ne hC dX6_feed_7 (t := 17) rfl (q := 10) rfl (fun h => absurd h (by decide)) (fun _ => ?_)
    refine v_aload_n hC rfl dX6_feed_10 (q := 11) rfl ?_
    refine v_ldc hC wk_X6_35 dX6_feed_11 (q := 13) rfl ?_
    refine v_Vi hC lkV_X6_37 (c_X6_finds (n := 0) (by decide)) rfl (by decide) (k := 47) (by decide) hp_47 rfl rfl (Nat.le_of_ble_eq_true rfl) dX6_feed_13 (q := 16) rfl ?_
    rintro _ _ ⟨rfl, rfl⟩
    refine hR _ _ _ _ ?_ dX6_feed_16
    refine ⟨?_, ?_⟩
    · simp only [S_feed, if_neg hc4, ansI]
    · simp only [S_feed, R_feed, T_feed, if_neg hc4, fR2, fnR, up_id]

set_option maxHeartbeats 4000000 in
set_option maxRecDepth 100000 in
theorem c_X6_wipe {l : Launch} {X : Gx} {S : CS} {m : Nat → Int32} {r : Nat → Nat → Int32} {c : Nat → Int64} {a0 a2 a3 a4 a5 a6 : Int32} {a1 : Int32}  : Ci l X yX6_wipe cX6_wipe 2 (some .int) (rmk 0 0) [.ref (ga X 47)] (hp X S (iv [a0, a1, a2, a3, a4, a5, a6], m, r, c)) (fun z g => z = a1 ∧ g = hp X S (iv [a0, 0, a2, a3, a4, a5, a6], m, r, c)) := by
  refine ct_i (own := RX6) (lv := [some (.ref (ga X 47)), none]) (by decide) rfl (Nat.le_of_ble_eq_true rfl) (Nat.le_of_ble_eq_true rfl) rfl (fun C hC hR => ?_)
  refine v_aload_n hC rfl dX6_wipe_0 (q := 1) rfl ?_
  refine v_get hC fl_X6_147 (k := 47) (by decide) hp_47v rfl dX6_wipe_1 (q := 4) rfl ?_
  refine v_istore_1 hC rfl dX6_wipe_4 (q := 5) rfl ?_
  refine v_aload_n hC rfl dX6_wipe_5 (q := 6) rfl ?_
  refine v_iconst hC (v := 0) rfl dX6_wipe_6 (q := 7) rfl ?_
  refine v_put hC fl_X6_147 pt_5_6 (k := 47) (by decide) hp_47v (Nat.le_of_ble_eq_true rfl) rfl rfl (hpv_1 _) dX6_wipe_7 (q := 10) rfl ?_
  refine v_iload_n hC rfl dX6_wipe_10 (q := 11) rfl ?_
  refine hR _ _ _ _ ?_ dX6_wipe_11
  exact ⟨rfl, rfl⟩
