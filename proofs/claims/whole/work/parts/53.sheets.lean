def fnFL (fo : Nat → Int32) : AnL → Nat → Int32
  | .inl k => upd fo k (fo k + 1)
  | .inr _ => fo
set_option maxHeartbeats 4000000 in
set_option maxRecDepth 100000 in
theorem c_X5_sheet {l : Launch} {X : Gx} {M : MS} {q nu : Nat → Nat → Int32} {vc : Nat → Nat → Nat → Int32} {sb : Nat → Nat → Int32} {tp by_ : Nat → Int32} {sh : Nat → Nat → Int32} {nn : Nat → Nat → Int64} {fo : Nat → Int32} {kp : Int32} {s b n : Int32} : Ci l X yX5_sheet cX5_sheet 4 (some .int) (rmk 1 23) [.ref (ga X 0), .int s, .int b, .int n] (ch X M q nu vc sb tp by_ sh nn fo kp) (fun z g => z = ansI (S_sheet s b n) ∧ g = match gSh s b n with
  | none => ch X M q nu vc sb tp by_ sh nn (fnF fo (S_sheet s b n)) kp
  | some Q => ch X M q nu vc sb tp by_ (va_up sh Q (upd (upd (sh Q) 0 b) 1 (if b = 0 then 0 else n))) (va_up nn Q (mixN 40 (fun _ => 0) (nn Q))) fo kp) := by
  refine ct_i (own := RX5) (lv := [some (.ref (ga X 0)), some (.int s), some (.int b), some (.int n)]) (by decide) rfl (Nat.le_of_ble_eq_true rfl) (Nat.le_of_ble_eq_true rfl) rfl (fun C hC hR => ?_)
  have hix : ∀ Q, Q < 4 → pIx 4 (nI Q) = some Q := fun Q h => pIx_nI h (by decide)
  have hno : ∀ s, (¬ ∃ Q, Q < 4 ∧ s = nI Q) → pIx 4 s = none := fun s h => pIx_no (by decide) h
  refine v_iload_n hC rfl dX5_sheet_0 (q := 1) rfl ?_
  refine v_Si hC lkS_X5_206 c_X5_isSheet rfl (by decide) rfl (Nat.le_of_ble_eq_true rfl) dX5_sheet_1 (q := 4) rfl ?_
  rintro _ _ ⟨⟨⟨Q1, hQ1, rfl⟩, rfl⟩ | ⟨hc1, rfl⟩, rfl⟩
  · refine v_if_eq hC dX5_sheet_4 (t := 29) rfl (q := 7) rfl (fun h => absurd h (by decide)) (fun _ => ?_)
    refine v_iload_n hC rfl dX5_sheet_7 (q := 8) rfl ?_
    refine v_if_eq hC dX5_sheet_8 (t := 36) rfl (q := 11) rfl (fun h8 => ?_) (fun h8 => ?_)
    · refine v_iload_n hC rfl dX5_sheet_36 (q := 37) rfl ?_
      refine v_if_ge hC dX5_sheet_37 (t := 47) rfl (q := 40) rfl (fun h37 => ?_) (fun h37 => ?_)
      · refine v_iload_n hC rfl dX5_sheet_47 (q := 48) rfl ?_
        refine v_bipush hC (v := 40) rfl dX5_sheet_48 (q := 50) rfl ?_
        refine v_icmp_le hC dX5_sheet_50 (t := 60) rfl (q := 53) rfl (fun h50 => ?_) (fun h50 => ?_)
        · refine v_aload_n hC rfl dX5_sheet_60 (q := 61) rfl ?_
          refine v_get hC fl_X5_38 (k := 0) (by decide) ch_0 rfl dX5_sheet_61 (q := 64) rfl ?_
          refine v_iload_n hC rfl dX5_sheet_64 (q := 65) rfl ?_
          refine v_aald hC 3 (k := 37) (by decide) ch_37 rfl (ix4' (by omega)) (j := Q1) (nI_clamp (by omega)) rfl dX5_sheet_65 (q := 66) rfl ?_
          refine v_iload_n hC rfl dX5_sheet_66 (q := 67) rfl ?_
          refine v_iload_n hC rfl dX5_sheet_67 (q := 68) rfl ?_
          refine v_Vv hC lkV_X5_210 (c_X2_begin (s := Q1) (by omega)) rfl (by decide) (k := 38 + 2 * Q1) (by omega) (ch_sh (s := Q1) (by omega)) rfl rfl (Nat.le_of_ble_eq_true rfl) dX5_sheet_68 (q := 71) rfl ?_
          rintro _ rfl
          refine v_aload_n hC rfl dX5_sheet_71 (q := 72) rfl ?_
          refine v_get hC fl_X5_38 (k := 0) (by decide) ch_0 rfl dX5_sheet_72 (q := 75) rfl ?_
          refine v_iload_n hC rfl dX5_sheet_75 (q := 76) rfl ?_
          refine v_aald hC 3 (k := 37) (by decide) ch_37 rfl (ix4' (by omega)) (j := Q1) (nI_clamp (by omega)) rfl dX5_sheet_76 (q := 77) rfl ?_
          refine v_getN hC nl_X5_213 (k := 38 + 2 * Q1) (by omega) (ch_sh (s := Q1) (by omega)) rfl dX5_sheet_77 (q := 80) rfl ?_
          refine hR _ _ _ _ ?_ dX5_sheet_80
          have hb : b = 0 ∨ b = 8 ∨ b = 16 ∨ b = 64 := Or.inl h8
          have hn : ¬ n < 0 := Int32.not_lt.mpr h37
          have hg : (b = 0 ∨ b = 8 ∨ b = 16 ∨ b = 64) ∧ ¬ n < 0 ∧ n ≤ 40 := ⟨hb, hn, h50⟩
          refine ⟨?_, ?_⟩
          · simp only [S_sheet, hix _ hQ1, if_pos hb, if_neg hn, if_pos h50, ansI, va_up_self]
            simp [upd]
          · simp only [S_sheet, gSh, hix _ hQ1, if_pos hb, if_neg hn, if_pos h50, if_pos hg, fnF]
        · refine v_aload_n hC rfl dX5_sheet_53 (q := 54) rfl ?_
          refine v_ldc hC wk_X5_55 dX5_sheet_54 (q := 56) rfl ?_
          refine v_Vi hC lkV_X5_56 (c_X5_finding (n := 0) (by decide)) rfl (by decide) (k := 0) (by decide) ch_0 rfl rfl (Nat.le_of_ble_eq_true rfl) dX5_sheet_56 (q := 59) rfl ?_
          rintro _ _ ⟨rfl, rfl⟩
          refine hR _ _ _ _ ?_ dX5_sheet_59
          have hb : b = 0 ∨ b = 8 ∨ b = 16 ∨ b = 64 := Or.inl h8
          have hn : ¬ n < 0 := Int32.not_lt.mpr h37
          have hg : ¬ ((b = 0 ∨ b = 8 ∨ b = 16 ∨ b = 64) ∧ ¬ n < 0 ∧ n ≤ 40) := fun z => h50 z.2.2
          refine ⟨?_, ?_⟩
          · simp only [S_sheet, hix _ hQ1, if_pos hb, if_neg hn, if_neg h50, ansI]
          · simp only [S_sheet, gSh, hix _ hQ1, if_pos hb, if_neg hn, if_neg h50, if_neg hg, fnF]
      · refine v_aload_n hC rfl dX5_sheet_40 (q := 41) rfl ?_
        refine v_ldc hC wk_X5_209 dX5_sheet_41 (q := 43) rfl ?_
        refine v_Vi hC lkV_X5_56 (c_X5_finding (n := 6) (by decide)) rfl (by decide) (k := 0) (by decide) ch_0 rfl rfl (Nat.le_of_ble_eq_true rfl) dX5_sheet_43 (q := 46) rfl ?_
        rintro _ _ ⟨rfl, rfl⟩
        refine hR _ _ _ _ ?_ dX5_sheet_46
        have hb : b = 0 ∨ b = 8 ∨ b = 16 ∨ b = 64 := Or.inl h8
        have hn := Int32.not_le.mp h37
        have hg : ¬ ((b = 0 ∨ b = 8 ∨ b = 16 ∨ b = 64) ∧ ¬ n < 0 ∧ n ≤ 40) := fun z => z.2.1 hn
        refine ⟨?_, ?_⟩
        · simp only [S_sheet, hix _ hQ1, if_pos hb, if_pos hn, ansI]
        · simp only [S_sheet, gSh, hix _ hQ1, if_pos hb, if_pos hn, if_neg hg, fnF]
    · refine v_iload_n hC rfl dX5_sheet_11 (q := 12) rfl ?_
      refine v_bipush hC (v := 8) rfl dX5_sheet_12 (q := 14) rfl ?_
      refine v_icmp_eq hC dX5_sheet_14 (t := 36) rfl (q := 17) rfl (fun h14 => ?_) (fun h14 => ?_)
      · refine v_iload_n hC rfl dX5_sheet_36 (q := 37) rfl ?_
        refine v_if_ge hC dX5_sheet_37 (t := 47) rfl (q := 40) rfl (fun h37 => ?_) (fun h37 => ?_)
        · refine v_iload_n hC rfl dX5_sheet_47 (q := 48) rfl ?_
          refine v_bipush hC (v := 40) rfl dX5_sheet_48 (q := 50) rfl ?_
          refine v_icmp_le hC dX5_sheet_50 (t := 60) rfl (q := 53) rfl (fun h50 => ?_) (fun h50 => ?_)
          · refine v_aload_n hC rfl dX5_sheet_60 (q := 61) rfl ?_
            refine v_get hC fl_X5_38 (k := 0) (by decide) ch_0 rfl dX5_sheet_61 (q := 64) rfl ?_
            refine v_iload_n hC rfl dX5_sheet_64 (q := 65) rfl ?_
            refine v_aald hC 3 (k := 37) (by decide) ch_37 rfl (ix4' (by omega)) (j := Q1) (nI_clamp (by omega)) rfl dX5_sheet_65 (q := 66) rfl ?_
            refine v_iload_n hC rfl dX5_sheet_66 (q := 67) rfl ?_
            refine v_iload_n hC rfl dX5_sheet_67 (q := 68) rfl ?_
            refine v_Vv hC lkV_X5_210 (c_X2_begin (s := Q1) (by omega)) rfl (by decide) (k := 38 + 2 * Q1) (by omega) (ch_sh (s := Q1) (by omega)) rfl rfl (Nat.le_of_ble_eq_true rfl) dX5_sheet_68 (q := 71) rfl ?_
            rintro _ rfl
            refine v_aload_n hC rfl dX5_sheet_71 (q := 72) rfl ?_
            refine v_get hC fl_X5_38 (k := 0) (by decide) ch_0 rfl dX5_sheet_72 (q := 75) rfl ?_
            refine v_iload_n hC rfl dX5_sheet_75 (q := 76) rfl ?_
            refine v_aald hC 3 (k := 37) (by decide) ch_37 rfl (ix4' (by omega)) (j := Q1) (nI_clamp (by omega)) rfl dX5_sheet_76 (q := 77) rfl ?_
            refine v_getN hC nl_X5_213 (k := 38 + 2 * Q1) (by omega) (ch_sh (s := Q1) (by omega)) rfl dX5_sheet_77 (q := 80) rfl ?_
            refine hR _ _ _ _ ?_ dX5_sheet_80
            have hb : b = 0 ∨ b = 8 ∨ b = 16 ∨ b = 64 := Or.inr (Or.inl h14)
            have hn : ¬ n < 0 := Int32.not_lt.mpr h37
            have hg : (b = 0 ∨ b = 8 ∨ b = 16 ∨ b = 64) ∧ ¬ n < 0 ∧ n ≤ 40 := ⟨hb, hn, h50⟩
            refine ⟨?_, ?_⟩
            · simp only [S_sheet, hix _ hQ1, if_pos hb, if_neg hn, if_pos h50, ansI, va_up_self]
              simp [upd]
            · simp only [S_sheet, gSh, hix _ hQ1, if_pos hb, if_neg hn, if_pos h50, if_pos hg, fnF]
          · refine v_aload_n hC rfl dX5_sheet_53 (q := 54) rfl ?_
            refine v_ldc hC wk_X5_55 dX5_sheet_54 (q := 56) rfl ?_
            refine v_Vi hC lkV_X5_56 (c_X5_finding (n := 0) (by decide)) rfl (by decide) (k := 0) (by decide) ch_0 rfl rfl (Nat.le_of_ble_eq_true rfl) dX5_sheet_56 (q := 59) rfl ?_
            rintro _ _ ⟨rfl, rfl⟩
            refine hR _ _ _ _ ?_ dX5_sheet_59
            have hb : b = 0 ∨ b = 8 ∨ b = 16 ∨ b = 64 := Or.inr (Or.inl h14)
            have hn : ¬ n < 0 := Int32.not_lt.mpr h37
            have hg : ¬ ((b = 0 ∨ b = 8 ∨ b = 16 ∨ b = 64) ∧ ¬ n < 0 ∧ n ≤ 40) := fun z => h50 z.2.2
            refine ⟨?_, ?_⟩
            · simp only [S_sheet, hix _ hQ1, if_pos hb, if_neg hn, if_neg h50, ansI]
            · simp only [S_sheet, gSh, hix _ hQ1, if_pos hb, if_neg hn, if_neg h50, if_neg hg, fnF]
        · refine v_aload_n hC rfl dX5_sheet_40 (q := 41) rfl ?_
          refine v_ldc hC wk_X5_209 dX5_sheet_41 (q := 43) rfl ?_
          refine v_Vi hC lkV_X5_56 (c_X5_finding (n := 6) (by decide)) rfl (by decide) (k := 0) (by decide) ch_0 rfl rfl (Nat.le_of_ble_eq_true rfl) dX5_sheet_43 (q := 46) rfl ?_
          rintro _ _ ⟨rfl, rfl⟩
          refine hR _ _ _ _ ?_ dX5_sheet_46
          have hb : b = 0 ∨ b = 8 ∨ b = 16 ∨ b = 64 := Or.inr (Or.inl h14)
          have hn := Int32.not_le.mp h37
          have hg : ¬ ((b = 0 ∨ b = 8 ∨ b = 16 ∨ b = 64) ∧ ¬ n < 0 ∧ n ≤ 40) := fun z => z.2.1 hn
          refine ⟨?_, ?_⟩
          · simp only [S_sheet, hix _ hQ1, if_pos hb, if_pos hn, ansI]
          · simp only [S_sheet, gSh, hix _ hQ1, if_pos hb, if_pos hn, if_neg hg, fnF]
      · refine v_iload_n hC rfl dX5_sheet_17 (q := 18) rfl ?_
        refine v_bipush hC (v := 16) rfl dX5_sheet_18 (q := 20) rfl ?_
        refine v_icmp_eq hC dX5_sheet_20 (t := 36) rfl (q := 23) rfl (fun h20 => ?_) (fun h20 => ?_)
        · refine v_iload_n hC rfl dX5_sheet_36 (q := 37) rfl ?_
          refine v_if_ge hC dX5_sheet_37 (t := 47) rfl (q := 40) rfl (fun h37 => ?_) (fun h37 => ?_)
          · refine v_iload_n hC rfl dX5_sheet_47 (q := 48) rfl ?_
            refine v_bipush hC (v := 40) rfl dX5_sheet_48 (q := 50) rfl ?_
            refine v_icmp_le hC dX5_sheet_50 (t := 60) rfl (q := 53) rfl (fun h50 => ?_) (fun h50 => ?_)
            · refine v_aload_n hC rfl dX5_sheet_60 (q := 61) rfl ?_
              refine v_get hC fl_X5_38 (k := 0) (by decide) ch_0 rfl dX5_sheet_61 (q := 64) rfl ?_
              refine v_iload_n hC rfl dX5_sheet_64 (q := 65) rfl ?_
              refine v_aald hC 3 (k := 37) (by decide) ch_37 rfl (ix4' (by omega)) (j := Q1) (nI_clamp (by omega)) rfl dX5_sheet_65 (q := 66) rfl ?_
              refine v_iload_n hC rfl dX5_sheet_66 (q := 67) rfl ?_
              refine v_iload_n hC rfl dX5_sheet_67 (q := 68) rfl ?_
              refine v_Vv hC lkV_X5_210 (c_X2_begin (s := Q1) (by omega)) rfl (by decide) (k := 38 + 2 * Q1) (by omega) (ch_sh (s := Q1) (by omega)) rfl rfl (Nat.le_of_ble_eq_true rfl) dX5_sheet_68 (q := 71) rfl ?_
              rintro _ rfl
              refine v_aload_n hC rfl dX5_sheet_71 (q := 72) rfl ?_
              refine v_get hC fl_X5_38 (k := 0) (by decide) ch_0 rfl dX5_sheet_72 (q := 75) rfl ?_
              refine v_iload_n hC rfl dX5_sheet_75 (q := 76) rfl ?_
              refine v_aald hC 3 (k := 37) (by decide) ch_37 rfl (ix4' (by omega)) (j := Q1) (nI_clamp (by omega)) rfl dX5_sheet_76 (q := 77) rfl ?_
              refine v_getN hC nl_X5_213 (k := 38 + 2 * Q1) (by omega) (ch_sh (s := Q1) (by omega)) rfl dX5_sheet_77 (q := 80) rfl ?_
              refine hR _ _ _ _ ?_ dX5_sheet_80
              have hb : b = 0 ∨ b = 8 ∨ b = 16 ∨ b = 64 := Or.inr (Or.inr (Or.inl h20))
              have hn : ¬ n < 0 := Int32.not_lt.mpr h37
              have hg : (b = 0 ∨ b = 8 ∨ b = 16 ∨ b = 64) ∧ ¬ n < 0 ∧ n ≤ 40 := ⟨hb, hn, h50⟩
              refine ⟨?_, ?_⟩
              · simp only [S_sheet, hix _ hQ1, if_pos hb, if_neg hn, if_pos h50, ansI, va_up_self]
                simp [upd]
              · simp only [S_sheet, gSh, hix _ hQ1, if_pos hb, if_neg hn, if_pos h50, if_pos hg, fnF]
            · refine v_aload_n hC rfl dX5_sheet_53 (q := 54) rfl ?_
              refine v_ldc hC wk_X5_55 dX5_sheet_54 (q := 56) rfl ?_
              refine v_Vi hC lkV_X5_56 (c_X5_finding (n := 0) (by decide)) rfl (by decide) (k := 0) (by decide) ch_0 rfl rfl (Nat.le_of_ble_eq_true rfl) dX5_sheet_56 (q := 59) rfl ?_
              rintro _ _ ⟨rfl, rfl⟩
              refine hR _ _ _ _ ?_ dX5_sheet_59
              have hb : b = 0 ∨ b = 8 ∨ b = 16 ∨ b = 64 := Or.inr (Or.inr (Or.inl h20))
              have hn : ¬ n < 0 := Int32.not_lt.mpr h37
              have hg : ¬ ((b = 0 ∨ b = 8 ∨ b = 16 ∨ b = 64) ∧ ¬ n < 0 ∧ n ≤ 40) := fun z => h50 z.2.2
              refine ⟨?_, ?_⟩
              · simp only [S_sheet, hix _ hQ1, if_pos hb, if_neg hn, if_neg h50, ansI]
              · simp only [S_sheet, gSh, hix _ hQ1, if_pos hb, if_neg hn, if_neg h50, if_neg hg, fnF]
          · refine v_aload_n hC rfl dX5_sheet_40 (q := 41) rfl ?_
            refine v_ldc hC wk_X5_209 dX5_sheet_41 (q := 43) rfl ?_
            refine v_Vi hC lkV_X5_56 (c_X5_finding (n := 6) (by decide)) rfl (by decide) (k := 0) (by decide) ch_0 rfl rfl (Nat.le_of_ble_eq_true rfl) dX5_sheet_43 (q := 46) rfl ?_
            rintro _ _ ⟨rfl, rfl⟩
            refine hR _ _ _ _ ?_ dX5_sheet_46
            have hb : b = 0 ∨ b = 8 ∨ b = 16 ∨ b = 64 := Or.inr (Or.inr (Or.inl h20))
            have hn := Int32.not_le.mp h37
            have hg : ¬ ((b = 0 ∨ b = 8 ∨ b = 16 ∨ b = 64) ∧ ¬ n < 0 ∧ n ≤ 40) := fun z => z.2.1 hn
            refine ⟨?_, ?_⟩
            · simp only [S_sheet, hix _ hQ1, if_pos hb, if_pos hn, ansI]
            · simp only [S_sheet, gSh, hix _ hQ1, if_pos hb, if_pos hn, if_neg hg, fnF]
        · refine v_iload_n hC rfl dX5_sheet_23 (q := 24) rfl ?_
          refine v_bipush hC (v := 64) rfl dX5_sheet_24 (q := 26) rfl ?_
          refine v_icmp_eq hC dX5_sheet_26 (t := 36) rfl (q := 29) rfl (fun h26 => ?_) (fun h26 => ?_)
          · refine v_iload_n hC rfl dX5_sheet_36 (q := 37) rfl ?_
            refine v_if_ge hC dX5_sheet_37 (t := 47) rfl (q := 40) rfl (fun h37 => ?_) (fun h37 => ?_)
            · refine v_iload_n hC rfl dX5_sheet_47 (q := 48) rfl ?_
              refine v_bipush hC (v := 40) rfl dX5_sheet_48 (q := 50) rfl ?_
              refine v_icmp_le hC dX5_sheet_50 (t := 60) rfl (q := 53) rfl (fun h50 => ?_) (fun h50 => ?_)
              · refine v_aload_n hC rfl dX5_sheet_60 (q := 61) rfl ?_
                refine v_get hC fl_X5_38 (k := 0) (by decide) ch_0 rfl dX5_sheet_61 (q := 64) rfl ?_
                refine v_iload_n hC rfl dX5_sheet_64 (q := 65) rfl ?_
                refine v_aald hC 3 (k := 37) (by decide) ch_37 rfl (ix4' (by omega)) (j := Q1) (nI_clamp (by omega)) rfl dX5_sheet_65 (q := 66) rfl ?_
                refine v_iload_n hC rfl dX5_sheet_66 (q := 67) rfl ?_
                refine v_iload_n hC rfl dX5_sheet_67 (q := 68) rfl ?_
                refine v_Vv hC lkV_X5_210 (c_X2_begin (s := Q1) (by omega)) rfl (by decide) (k := 38 + 2 * Q1) (by omega) (ch_sh (s := Q1) (by omega)) rfl rfl (Nat.le_of_ble_eq_true rfl) dX5_sheet_68 (q := 71) rfl ?_
                rintro _ rfl
                refine v_aload_n hC rfl dX5_sheet_71 (q := 72) rfl ?_
                refine v_get hC fl_X5_38 (k := 0) (by decide) ch_0 rfl dX5_sheet_72 (q := 75) rfl ?_
                refine v_iload_n hC rfl dX5_sheet_75 (q := 76) rfl ?_
                refine v_aald hC 3 (k := 37) (by decide) ch_37 rfl (ix4' (by omega)) (j := Q1) (nI_clamp (by omega)) rfl dX5_sheet_76 (q := 77) rfl ?_
                refine v_getN hC nl_X5_213 (k := 38 + 2 * Q1) (by omega) (ch_sh (s := Q1) (by omega)) rfl dX5_sheet_77 (q := 80) rfl ?_
                refine hR _ _ _ _ ?_ dX5_sheet_80
                have hb : b = 0 ∨ b = 8 ∨ b = 16 ∨ b = 64 := Or.inr (Or.inr (Or.inr h26))
                have hn : ¬ n < 0 := Int32.not_lt.mpr h37
                have hg : (b = 0 ∨ b = 8 ∨ b = 16 ∨ b = 64) ∧ ¬ n < 0 ∧ n ≤ 40 := ⟨hb, hn, h50⟩
                refine ⟨?_, ?_⟩
                · simp only [S_sheet, hix _ hQ1, if_pos hb, if_neg hn, if_pos h50, ansI, va_up_self]
                  simp [upd]
                · simp only [S_sheet, gSh, hix _ hQ1, if_pos hb, if_neg hn, if_pos h50, if_pos hg, fnF]
              · refine v_aload_n hC rfl dX5_sheet_53 (q := 54) rfl ?_
                refine v_ldc hC wk_X5_55 dX5_sheet_54 (q := 56) rfl ?_
                refine v_Vi hC lkV_X5_56 (c_X5_finding (n := 0) (by decide)) rfl (by decide) (k := 0) (by decide) ch_0 rfl rfl (Nat.le_of_ble_eq_true rfl) dX5_sheet_56 (q := 59) rfl ?_
                rintro _ _ ⟨rfl, rfl⟩
                refine hR _ _ _ _ ?_ dX5_sheet_59
                have hb : b = 0 ∨ b = 8 ∨ b = 16 ∨ b = 64 := Or.inr (Or.inr (Or.inr h26))
                have hn : ¬ n < 0 := Int32.not_lt.mpr h37
                have hg : ¬ ((b = 0 ∨ b = 8 ∨ b = 16 ∨ b = 64) ∧ ¬ n < 0 ∧ n ≤ 40) := fun z => h50 z.2.2
                refine ⟨?_, ?_⟩
                · simp only [S_sheet, hix _ hQ1, if_pos hb, if_neg hn, if_neg h50, ansI]
                · simp only [S_sheet, gSh, hix _ hQ1, if_pos hb, if_neg hn, if_neg h50, if_neg hg, fnF]
            · refine v_aload_n hC rfl dX5_sheet_40 (q := 41) rfl ?_
              refine v_ldc hC wk_X5_209 dX5_sheet_41 (q := 43) rfl ?_
              refine v_Vi hC lkV_X5_56 (c_X5_finding (n := 6) (by decide)) rfl (by decide) (k := 0) (by decide) ch_0 rfl rfl (Nat.le_of_ble_eq_true rfl) dX5_sheet_43 (q := 46) rfl ?_
              rintro _ _ ⟨rfl, rfl⟩
              refine hR _ _ _ _ ?_ dX5_sheet_46
              have hb : b = 0 ∨ b = 8 ∨ b = 16 ∨ b = 64 := Or.inr (Or.inr (Or.inr h26))
              have hn := Int32.not_le.mp h37
              have hg : ¬ ((b = 0 ∨ b = 8 ∨ b = 16 ∨ b = 64) ∧ ¬ n < 0 ∧ n ≤ 40) := fun z => z.2.1 hn
              refine ⟨?_, ?_⟩
              · simp only [S_sheet, hix _ hQ1, if_pos hb, if_pos hn, ansI]
              · simp only [S_sheet, gSh, hix _ hQ1, if_pos hb, if_pos hn, if_neg hg, fnF]
          · refine v_aload_n hC rfl dX5_sheet_29 (q := 30) rfl ?_
            refine v_ldc hC wk_X5_55 dX5_sheet_30 (q := 32) rfl ?_
            refine v_Vi hC lkV_X5_56 (c_X5_finding (n := 0) (by decide)) rfl (by decide) (k := 0) (by decide) ch_0 rfl rfl (Nat.le_of_ble_eq_true rfl) dX5_sheet_32 (q := 35) rfl ?_
            rintro _ _ ⟨rfl, rfl⟩
            refine hR _ _ _ _ ?_ dX5_sheet_35
            have hb : ¬ (b = 0 ∨ b = 8 ∨ b = 16 ∨ b = 64) := by rintro (z | z | z | z) <;> contradiction
            have hg : ¬ ((b = 0 ∨ b = 8 ∨ b = 16 ∨ b = 64) ∧ ¬ n < 0 ∧ n ≤ 40) := fun z => hb z.1
            refine ⟨?_, ?_⟩
            · simp only [S_sheet, hix _ hQ1, if_neg hb, ansI]
            · simp only [S_sheet, gSh, hix _ hQ1, if_neg hb, if_neg hg, fnF]
  · refine v_if_eq hC dX5_sheet_4 (t := 29) rfl (q := 7) rfl (fun _ => ?_) (fun h => absurd h (by decide))
    refine v_aload_n hC rfl dX5_sheet_29 (q := 30) rfl ?_
    refine v_ldc hC wk_X5_55 dX5_sheet_30 (q := 32) rfl ?_
    refine v_Vi hC lkV_X5_56 (c_X5_finding (n := 0) (by decide)) rfl (by decide) (k := 0) (by decide) ch_0 rfl rfl (Nat.le_of_ble_eq_true rfl) dX5_sheet_32 (q := 35) rfl ?_
    rintro _ _ ⟨rfl, rfl⟩
    refine hR _ _ _ _ ?_ dX5_sheet_35
    refine ⟨?_, ?_⟩
    · simp only [S_sheet, hno _ hc1, ansI]
    · simp only [S_sheet, gSh, hno _ hc1, fnF]

set_option maxHeartbeats 4000000 in
set_option maxRecDepth 100000 in
theorem c_X5_write {l : Launch} {X : Gx} {M : MS} {q nu : Nat → Nat → Int32} {vc : Nat → Nat → Nat → Int32} {sb : Nat → Nat → Int32} {tp by_ : Nat → Int32} {sh : Nat → Nat → Int32} {nn : Nat → Nat → Int64} {fo : Nat → Int32} {kp : Int32} (hZ : szOK (fun s => sh s 1)) {s i_ : Int32} {v : Int64} : Cl l X yX5_write cX5_write 9 (some .long) (rmk 2 41) [.ref (ga X 0), .int s, .int i_, .long v] (ch X M q nu vc sb tp by_ sh nn fo kp) (fun z g => z = ansL (S_write (fun s => sh s 0) (fun s => sh s 1) nn s i_) ∧ g = match gWr (fun s => sh s 0) (fun s => sh s 1) s i_ with
  | none => ch X M q nu vc sb tp by_ sh nn (fnFL fo (S_write (fun s => sh s 0) (fun s => sh s 1) nn s i_)) kp
  | some (Q, k) => ch X M q nu vc sb tp by_ sh (va_up nn Q (vp_updL (nn Q) k (cutF (sh Q 0) v))) fo kp) := by
  refine ct_l (own := RX5) (lv := [some (.ref (ga X 0)), some (.int s), some (.int i_), some (.long v), none, none, none, none, none]) (by decide) rfl (Nat.le_of_ble_eq_true rfl) (Nat.le_of_ble_eq_true rfl) rfl (fun C hC hR => ?_)
  cases e : nT (fun s => sh s 0) s with
  | inl k =>
    have hk := nT_lt e
    have h0 := fnd_ne ⟨k, hk⟩
    refine v_aload_n hC rfl dX5_write_0 (q := 1) rfl ?_
    refine v_iload_n hC rfl dX5_write_1 (q := 2) rfl ?_
    refine v_Vi hC lkV_X5_216 c_X5_faultOfSheet rfl (by decide) (k := 0) (by decide) ch_0 rfl rfl (Nat.le_of_ble_eq_true rfl) dX5_write_2 (q := 5) rfl ?_
    rintro _ _ ⟨rfl, rfl⟩
    rw [e, whyI]
    refine v_istore_5 hC rfl dX5_write_5 (q := 7) rfl ?_
    refine v_iload hC rfl dX5_write_7 (q := 9) rfl ?_
    refine v_if_eq hC dX5_write_9 (t := 20) rfl (q := 12) rfl (fun h => absurd h h0) (fun _ => ?_)
    refine v_aload_n hC rfl dX5_write_12 (q := 13) rfl ?_
    refine v_iload hC rfl dX5_write_13 (q := 15) rfl ?_
    refine v_Vi hC lkV_X5_56 (c_X5_finding hk) rfl (by decide) (k := 0) (by decide) ch_0 rfl rfl (Nat.le_of_ble_eq_true rfl) dX5_write_15 (q := 18) rfl ?_
    rintro _ _ ⟨rfl, rfl⟩
    refine v_i2l hC dX5_write_18 (q := 19) rfl ?_
    refine hR _ _ _ _ ?_ dX5_write_19
    exact ⟨by simp only [S_write, e, ansL], by simp only [S_write, gWr, e, fnFL]⟩
  | inr Q =>
    obtain ⟨hQ, rfl, hb⟩ := nT_ok e
    obtain ⟨z, hz, hsz⟩ := hZ Q hQ
    have hsz : sh Q 1 = nI z := hsz
    refine v_aload_n hC rfl dX5_write_0 (q := 1) rfl ?_
    refine v_iload_n hC rfl dX5_write_1 (q := 2) rfl ?_
    refine v_Vi hC lkV_X5_216 c_X5_faultOfSheet rfl (by decide) (k := 0) (by decide) ch_0 rfl rfl (Nat.le_of_ble_eq_true rfl) dX5_write_2 (q := 5) rfl ?_
    rintro _ _ ⟨rfl, rfl⟩
    rw [e, whyI]
    refine v_istore_5 hC rfl dX5_write_5 (q := 7) rfl ?_
    refine v_iload hC rfl dX5_write_7 (q := 9) rfl ?_
    refine v_if_eq hC dX5_write_9 (t := 20) rfl (q := 12) rfl (fun _ => ?_) (fun h => absurd rfl h)
    refine v_aload_n hC rfl dX5_write_20 (q := 21) rfl ?_
    refine v_get hC fl_X5_38 (k := 0) (by decide) ch_0 rfl dX5_write_21 (q := 24) rfl ?_
    refine v_iload_n hC rfl dX5_write_24 (q := 25) rfl ?_
    refine v_aald hC 3 (k := 37) (by decide) ch_37 rfl (ix4' (by omega)) (j := Q) (nI_clamp (by omega)) rfl dX5_write_25 (q := 26) rfl ?_
    refine v_astore_6 hC rfl dX5_write_26 (q := 28) rfl ?_
    refine v_iload_n hC rfl dX5_write_28 (q := 29) rfl ?_
    refine v_if_lt hC dX5_write_29 (t := 41) rfl (q := 32) rfl (fun h29 => ?_) (fun h29 => ?_)
    · refine v_aload_n hC rfl dX5_write_41 (q := 42) rfl ?_
      refine v_ldc hC wk_X5_55 dX5_write_42 (q := 44) rfl ?_
      refine v_Vi hC lkV_X5_56 (c_X5_finding (n := 0) (by decide)) rfl (by decide) (k := 0) (by decide) ch_0 rfl rfl (Nat.le_of_ble_eq_true rfl) dX5_write_44 (q := 47) rfl ?_
      rintro _ _ ⟨rfl, rfl⟩
      refine v_i2l hC dX5_write_47 (q := 48) rfl ?_
      refine hR _ _ _ _ ?_ dX5_write_48
      have hc : ¬ (0 ≤ i_ ∧ i_ ≤ sh Q 1 - 1) := fun z => Int32.not_le.mpr h29 z.1
      exact ⟨by simp only [S_write, e, if_neg hc, ansL], by simp only [S_write, gWr, e, if_neg hc, fnFL]⟩
    · refine v_iload_n hC rfl dX5_write_32 (q := 33) rfl ?_
      refine v_aload hC rfl dX5_write_33 (q := 35) rfl ?_
      refine v_getN hC nl_X5_213 (k := 38 + 2 * Q) (by omega) (ch_sh (s := Q) (by omega)) rfl dX5_write_35 (q := 38) rfl ?_
      refine v_icmp_lt hC dX5_write_38 (t := 49) rfl (q := 41) rfl (fun h38 => ?_) (fun h38 => ?_)
      · have h38b := h38
        rw [hsz] at h38b
        obtain ⟨J, hJ, hj⟩ := w_of (N := z) (by omega) (Int32.not_lt.mp h29) h38b
        subst hj
        have hcl : (nI J).toNatClampNeg = J := nI_clamp (by omega)
        have hcJ : 0 ≤ nI J ∧ nI J ≤ sh Q 1 - 1 := by rw [hsz, isK_iff hz]; exact ⟨J, hJ, rfl⟩
        refine v_aload hC rfl dX5_write_49 (q := 51) rfl ?_
        refine v_getN hC nl_X5_219 (k := 38 + 2 * Q) (by omega) (ch_sh (s := Q) (by omega)) rfl dX5_write_51 (q := 54) rfl ?_
        refine v_iload_n hC rfl dX5_write_54 (q := 55) rfl ?_
        refine v_lald hC (k := 39 + 2 * Q) (by omega) (ch_nn (s := Q) (by omega)) (ix40 (by omega)) (j := J) (nI_clamp (by omega)) dX5_write_55 (q := 56) rfl ?_
        refine v_lstore_7 hC rfl dX5_write_56 (q := 58) rfl ?_
        refine v_aload hC rfl dX5_write_58 (q := 60) rfl ?_
        refine v_iload_n hC rfl dX5_write_60 (q := 61) rfl ?_
        refine v_lload_n hC rfl dX5_write_61 (q := 62) rfl ?_
        refine v_Vv hC lkV_X5_223 (c_X2_put (s := Q) hQ (j := J) (by omega)) rfl (by decide) (k := 38 + 2 * Q) (by omega) (ch_sh (s := Q) (by omega)) rfl rfl (Nat.le_of_ble_eq_true rfl) dX5_write_62 (q := 65) rfl ?_
        rintro _ rfl
        refine v_lload hC rfl dX5_write_65 (q := 67) rfl ?_
        refine hR _ _ _ _ ?_ dX5_write_67
        exact ⟨by simp only [S_write, e, if_pos hcJ, hcl, ansL], by simp only [S_write, gWr, e, if_pos hcJ, hcl, fnFL]⟩
      · refine v_aload_n hC rfl dX5_write_41 (q := 42) rfl ?_
        refine v_ldc hC wk_X5_55 dX5_write_42 (q := 44) rfl ?_
        refine v_Vi hC lkV_X5_56 (c_X5_finding (n := 0) (by decide)) rfl (by decide) (k := 0) (by decide) ch_0 rfl rfl (Nat.le_of_ble_eq_true rfl) dX5_write_44 (q := 47) rfl ?_
        rintro _ _ ⟨rfl, rfl⟩
        refine v_i2l hC dX5_write_47 (q := 48) rfl ?_
        refine hR _ _ _ _ ?_ dX5_write_48
        have hc : ¬ (0 ≤ i_ ∧ i_ ≤ sh Q 1 - 1) := by
          rw [hsz, isK_iff hz]
          rintro ⟨J, hJ, rfl⟩
          exact h38 (by rw [hsz]; exact (nI_ltI (by omega) (by omega)).mpr hJ)
        exact ⟨by simp only [S_write, e, if_neg hc, ansL], by simp only [S_write, gWr, e, if_neg hc, fnFL]⟩

set_option maxHeartbeats 4000000 in
set_option maxRecDepth 100000 in
theorem c_X5_image {l : Launch} {X : Gx} {M : MS} {q nu : Nat → Nat → Int32} {vc : Nat → Nat → Nat → Int32} {sb : Nat → Nat → Int32} {tp by_ : Nat → Int32} {sh : Nat → Nat → Int32} {nn : Nat → Nat → Int64} {fo : Nat → Int32} {kp : Int32} {n : Nat} (hN : q 0 1 = nI n) (h8 : n ≤ 8) : Ci l X yX5_image cX5_image 1 (some .int) (rmk 3 64) [.ref (ga X 0)] (ch X M q nu vc sb tp by_ sh nn fo kp) (fun z g => z = 1 ∧ g = ch X M (va_up q 1 (upd (upd (q 1) 0 (q 0 0)) 1 (q 0 1))) (va_up nu 1 (mixN n (nu 0) (nu 1))) (va_up vc 1 (mixN n (vc 0) (vc 1))) sb tp by_ sh nn fo 1) := by
  refine ct_i (own := RX5) (lv := [some (.ref (ga X 0))]) (by decide) rfl (Nat.le_of_ble_eq_true rfl) (Nat.le_of_ble_eq_true rfl) rfl (fun C hC hR => ?_)
  refine v_aload_n hC rfl dX5_image_0 (q := 1) rfl ?_
  refine v_get hC fl_X5_16 (k := 0) (by decide) ch_0 rfl dX5_image_1 (q := 4) rfl ?_
  refine v_aload_n hC rfl dX5_image_4 (q := 5) rfl ?_
  refine v_get hC fl_X5_12 (k := 0) (by decide) ch_0 rfl dX5_image_5 (q := 8) rfl ?_
  refine v_Vv hC lkV_X5_165 (c_X1_become_C (b := 1) (by decide) (b2 := 0) (by decide) (by decide) hN h8) rfl (by decide) (k := 1 + 11 * 1) (by decide) (ch_q (b := 1) (by decide)) rfl rfl (Nat.le_of_ble_eq_true rfl) dX5_image_8 (q := 11) rfl ?_
  rintro _ rfl
  refine v_aload_n hC rfl dX5_image_11 (q := 12) rfl ?_
  refine v_iconst hC (v := 1) rfl dX5_image_12 (q := 13) rfl ?_
  refine v_put hC fl_X5_46 pt_4_7 (k := 0) (by decide) ch_0 (Nat.le_of_ble_eq_true rfl) rfl rfl (ch_kp _) dX5_image_13 (q := 16) rfl ?_
  refine v_iconst hC (v := 1) rfl dX5_image_16 (q := 17) rfl ?_
  refine hR _ _ _ _ ?_ dX5_image_17
  exact ⟨rfl, rfl⟩

set_option maxHeartbeats 4000000 in
set_option maxRecDepth 100000 in
theorem c_X5_undo {l : Launch} {X : Gx} {M : MS} {q nu : Nat → Nat → Int32} {vc : Nat → Nat → Nat → Int32} {sb : Nat → Nat → Int32} {tp by_ : Nat → Int32} {sh : Nat → Nat → Int32} {nn : Nat → Nat → Int64} {fo : Nat → Int32} {kp : Int32} {n : Nat} (hk : ¬ kp = 0 → q 1 1 = nI n ∧ n ≤ 8) : Ci l X yX5_undo cX5_undo 1 (some .int) (rmk 3 64) [.ref (ga X 0)] (ch X M q nu vc sb tp by_ sh nn fo kp) (fun z g => z = ansI (S_undo kp (q 1 1)) ∧ g = if kp = 0 then ch X M q nu vc sb tp by_ sh nn (fnF fo (S_undo kp (q 1 1))) kp else ch X M (va_up q 0 (upd (upd (q 0) 0 (q 1 0)) 1 (q 1 1))) (va_up nu 0 (mixN n (nu 1) (nu 0))) (va_up vc 0 (mixN n (vc 1) (vc 0))) sb tp by_ sh nn fo kp) := by
  refine ct_i (own := RX5) (lv := [some (.ref (ga X 0))]) (by decide) rfl (Nat.le_of_ble_eq_true rfl) (Nat.le_of_ble_eq_true rfl) rfl (fun C hC hR => ?_)
  refine v_aload_n hC rfl dX5_undo_0 (q := 1) rfl ?_
  refine v_get hC fl_X5_46 (k := 0) (by decide) ch_0 rfl dX5_undo_1 (q := 4) rfl ?_
  refine v_if_ne hC dX5_undo_4 (t := 14) rfl (q := 7) rfl (fun h4 => ?_) (fun h4 => ?_)
  · refine v_aload_n hC rfl dX5_undo_14 (q := 15) rfl ?_
    refine v_get hC fl_X5_12 (k := 0) (by decide) ch_0 rfl dX5_undo_15 (q := 18) rfl ?_
    refine v_aload_n hC rfl dX5_undo_18 (q := 19) rfl ?_
    refine v_get hC fl_X5_16 (k := 0) (by decide) ch_0 rfl dX5_undo_19 (q := 22) rfl ?_
    refine v_Vv hC lkV_X5_165 (c_X1_become_C (b := 0) (by decide) (b2 := 1) (by decide) (by decide) (hk h4).1 (hk h4).2) rfl (by decide) (k := 1 + 11 * 0) (by decide) (ch_q (b := 0) (by decide)) rfl rfl (Nat.le_of_ble_eq_true rfl) dX5_undo_22 (q := 25) rfl ?_
    rintro _ rfl
    refine v_aload_n hC rfl dX5_undo_25 (q := 26) rfl ?_
    refine v_get hC fl_X5_12 (k := 0) (by decide) ch_0 rfl dX5_undo_26 (q := 29) rfl ?_
    refine v_getN hC nl_X5_173 (k := 1 + 11 * 0) (by decide) (ch_q (b := 0) (by decide)) rfl dX5_undo_29 (q := 32) rfl ?_
    refine hR _ _ _ _ ?_ dX5_undo_32
    refine ⟨?_, ?_⟩
    · simp only [S_undo, if_neg h4, ansI, va_up_self]
      simp [upd]
    · rw [if_neg h4]
  · refine v_aload_n hC rfl dX5_undo_7 (q := 8) rfl ?_
    refine v_ldc hC wk_X5_176 dX5_undo_8 (q := 10) rfl ?_
    refine v_Vi hC lkV_X5_56 (c_X5_finding (n := 3) (by decide)) rfl (by decide) (k := 0) (by decide) ch_0 rfl rfl (Nat.le_of_ble_eq_true rfl) dX5_undo_10 (q := 13) rfl ?_
    rintro _ _ ⟨rfl, rfl⟩
    refine hR _ _ _ _ ?_ dX5_undo_13
    exact ⟨by simp only [S_undo, if_pos h4, ansI], by rw [if_pos h4]; simp only [S_undo, if_pos h4, fnF]⟩

set_option maxHeartbeats 4000000 in
set_option maxRecDepth 100000 in
theorem c_X5_tear {l : Launch} {X : Gx} {M : MS} {q nu : Nat → Nat → Int32} {vc : Nat → Nat → Nat → Int32} {sb : Nat → Nat → Int32} {tp by_ : Nat → Int32} {sh : Nat → Nat → Int32} {nn : Nat → Nat → Int64} {fo : Nat → Int32} {kp : Int32} : Ci l X yX5_tear cX5_tear 2 (some .int) (rmk 0 0) [.ref (ga X 0)] (ch X M q nu vc sb tp by_ sh nn fo kp) (fun z g => z = (if kp = 0 then 0 else 1) ∧ g = ch X M q nu vc sb tp by_ sh nn fo 0) := by
  refine ct_i (own := RX5) (lv := [some (.ref (ga X 0)), none]) (by decide) rfl (Nat.le_of_ble_eq_true rfl) (Nat.le_of_ble_eq_true rfl) rfl (fun C hC hR => ?_)
  refine v_aload_n hC rfl dX5_tear_0 (q := 1) rfl ?_
  refine v_get hC fl_X5_46 (k := 0) (by decide) ch_0 rfl dX5_tear_1 (q := 4) rfl ?_
  refine v_if_eq hC dX5_tear_4 (t := 11) rfl (q := 7) rfl (fun h4 => ?_) (fun h4 => ?_)
  · refine v_iconst hC (v := 0) rfl dX5_tear_11 (q := 12) rfl ?_
    refine v_istore_1 hC rfl dX5_tear_12 (q := 13) rfl ?_
    refine v_aload_n hC rfl dX5_tear_13 (q := 14) rfl ?_
    refine v_iconst hC (v := 0) rfl dX5_tear_14 (q := 15) rfl ?_
    refine v_put hC fl_X5_46 pt_4_7 (k := 0) (by decide) ch_0 (Nat.le_of_ble_eq_true rfl) rfl rfl (ch_kp _) dX5_tear_15 (q := 18) rfl ?_
    refine v_iload_n hC rfl dX5_tear_18 (q := 19) rfl ?_
    refine hR _ _ _ _ ?_ dX5_tear_19
    exact ⟨by rw [if_pos h4], rfl⟩
  · refine v_iconst hC (v := 1) rfl dX5_tear_7 (q := 8) rfl ?_
    refine v_goto hC dX5_tear_8 (t := 12) rfl ?_
    refine v_istore_1 hC rfl dX5_tear_12 (q := 13) rfl ?_
    refine v_aload_n hC rfl dX5_tear_13 (q := 14) rfl ?_
    refine v_iconst hC (v := 0) rfl dX5_tear_14 (q := 15) rfl ?_
    refine v_put hC fl_X5_46 pt_4_7 (k := 0) (by decide) ch_0 (Nat.le_of_ble_eq_true rfl) rfl rfl (ch_kp _) dX5_tear_15 (q := 18) rfl ?_
    refine v_iload_n hC rfl dX5_tear_18 (q := 19) rfl ?_
    refine hR _ _ _ _ ?_ dX5_tear_19
    exact ⟨by rw [if_neg h4], rfl⟩

set_option maxHeartbeats 4000000 in
set_option maxRecDepth 100000 in
theorem c_X5_count {l : Launch} {X : Gx} {M : MS} {q nu : Nat → Nat → Int32} {vc : Nat → Nat → Nat → Int32} {sb : Nat → Nat → Int32} {tp by_ : Nat → Int32} {sh : Nat → Nat → Int32} {nn : Nat → Nat → Int64} {fo : Nat → Int32} {kp : Int32} {n : Nat} (hN : q 0 1 = nI n) (h8 : n ≤ 8) {w : Int32} : Ci l X yX5_count cX5_count 2 (some .int) (rmk 1 22) [.ref (ga X 0), .int w] (ch X M q nu vc sb tp by_ sh nn fo kp) (fun z g => z = ansI (S_count n (vc 0) (tp 0) w) ∧ g = ch X M q nu vc sb tp by_ sh nn (fnF fo (S_count n (vc 0) (tp 0) w)) kp) := by
  refine ct_i (own := RX5) (lv := [some (.ref (ga X 0)), some (.int w)]) (by decide) rfl (Nat.le_of_ble_eq_true rfl) (Nat.le_of_ble_eq_true rfl) rfl (fun C hC hR => ?_)
  refine v_iload_n hC rfl dX5_count_0 (q := 1) rfl ?_
  refine v_em 0 (fun hs1_0 => ?_) (fun hs1_0 => ?_)
  · refine v_tin hC dX5_count_1 (by decide) (by decide) rfl (t := 32) rfl ?_
    refine v_aload_n hC rfl dX5_count_32 (q := 33) rfl ?_
    refine v_get hC fl_X5_12 (k := 0) (by decide) ch_0 rfl dX5_count_33 (q := 36) rfl ?_
    refine v_getN hC nl_X5_173 (k := 1 + 11 * 0) (by decide) (ch_q (b := 0) (by decide)) rfl dX5_count_36 (q := 39) rfl ?_
    refine hR _ _ _ _ ?_ dX5_count_39
    (refine ⟨?_, ?_⟩ <;> (simp [S_count, ansI, fnF, hN, *]; done))
  refine v_em 1 (fun hs1_1 => ?_) (fun hs1_1 => ?_)
  · refine v_tin hC dX5_count_1 (by decide) (by decide) rfl (t := 40) rfl ?_
    refine v_aload_n hC rfl dX5_count_40 (q := 41) rfl ?_
    refine v_get hC fl_X5_32 (k := 0) (by decide) ch_0 rfl dX5_count_41 (q := 44) rfl ?_
    refine v_getN hC nl_X5_194 (k := 35) (by decide) ch_35 rfl dX5_count_44 (q := 47) rfl ?_
    refine hR _ _ _ _ ?_ dX5_count_47
    (refine ⟨?_, ?_⟩ <;> (simp [S_count, ansI, fnF, hN, *]; done))
  refine v_em 2 (fun hs1_2 => ?_) (fun hs1_2 => ?_)
  · refine v_tin hC dX5_count_1 (by decide) (by decide) rfl (t := 48) rfl ?_
    refine v_aload_n hC rfl dX5_count_48 (q := 49) rfl ?_
    refine v_get hC fl_X5_12 (k := 0) (by decide) ch_0 rfl dX5_count_49 (q := 52) rfl ?_
    refine v_Vi hC lkV_X5_254 (c_X1_pairsThatShowNobody_C (b := 0) (by decide) hN h8) rfl (by decide) (k := 1 + 11 * 0) (by decide) (ch_q (b := 0) (by decide)) rfl rfl (Nat.le_of_ble_eq_true rfl) dX5_count_52 (q := 55) rfl ?_
    rintro _ _ ⟨rfl, rfl⟩
    refine hR _ _ _ _ ?_ dX5_count_55
    (refine ⟨?_, ?_⟩ <;> (simp [S_count, ansI, fnF, hN, *]; done))
  refine v_em 3 (fun hs1_3 => ?_) (fun hs1_3 => ?_)
  · refine v_tin hC dX5_count_1 (by decide) (by decide) rfl (t := 56) rfl ?_
    refine v_aload_n hC rfl dX5_count_56 (q := 57) rfl ?_
    refine v_get hC fl_X5_12 (k := 0) (by decide) ch_0 rfl dX5_count_57 (q := 60) rfl ?_
    refine v_Vi hC lkV_X5_257 (c_X1_wornTogether_C (b := 0) (by decide) hN h8) rfl (by decide) (k := 1 + 11 * 0) (by decide) (ch_q (b := 0) (by decide)) rfl rfl (Nat.le_of_ble_eq_true rfl) dX5_count_60 (q := 63) rfl ?_
    rintro _ _ ⟨rfl, rfl⟩
    refine hR _ _ _ _ ?_ dX5_count_63
    (refine ⟨?_, ?_⟩ <;> (simp [S_count, ansI, fnF, hN, *]; done))
  refine v_tout hC dX5_count_1 (sw_out_0_3 hs1_0 hs1_1 hs1_2 hs1_3) (t := 64) rfl ?_
  refine v_aload_n hC rfl dX5_count_64 (q := 65) rfl ?_
  refine v_ldc hC wk_X5_55 dX5_count_65 (q := 67) rfl ?_
  refine v_Vi hC lkV_X5_56 (c_X5_finding (n := 0) (by decide)) rfl (by decide) (k := 0) (by decide) ch_0 rfl rfl (Nat.le_of_ble_eq_true rfl) dX5_count_67 (q := 70) rfl ?_
  rintro _ _ ⟨rfl, rfl⟩
  refine hR _ _ _ _ ?_ dX5_count_70
  (refine ⟨?_, ?_⟩ <;> (simp [S_count, ansI, fnF, hN, *]; done))

theorem sta_at {fo : Nat → Int32} {k : Nat} (hk : k < 7) : ∀ j, j ≤ 7 → staF fo (nI k) j = if k < j then fo k else 0
  | 0, _ => by rw [staF, if_neg (Nat.not_lt_zero _)]
  | j + 1, hj => by
    rw [staF, sta_at hk j (by omega)]
    have hp : ¬ nI k < 0 := nI_pos (by omega)
    by_cases e : k = j
    · subst e
      rw [if_neg (Nat.lt_irrefl _), if_pos (Or.inr rfl), if_pos (by omega)]
      simp
    · have h2 : ¬ (nI k < 0 ∨ nI k = nI j) := fun z => z.elim hp (fun y => e ((nI_eq (by omega) (by omega)).mp y))
      rw [if_neg h2]
      by_cases h3 : k < j
      · rw [if_pos h3, if_pos (by omega)]; simp
      · rw [if_neg h3, if_neg (by omega)]; simp
theorem w6 {w : Int32} (h : w < 7) : w ≤ 6 := by
  rw [fa_lt] at h
  rw [fa_le]
  have h7 : w.toInt < 7 := h
  show w.toInt ≤ 6
  omega
theorem w7 {w : Int32} (h : w ≤ 6) : w < 7 := by
  rw [fa_le] at h
  rw [fa_lt]
  have h7 : w.toInt ≤ 6 := h
  show w.toInt < 7
  omega
set_option maxHeartbeats 4000000 in
set_option maxRecDepth 100000 in
theorem c_X5_status {l : Launch} {X : Gx} {M : MS} {q nu : Nat → Nat → Int32} {vc : Nat → Nat → Nat → Int32} {sb : Nat → Nat → Int32} {tp by_ : Nat → Int32} {sh : Nat → Nat → Int32} {nn : Nat → Nat → Int64} {fo : Nat → Int32} {kp : Int32} {w : Int32} : Ci l X yX5_status cX5_status 4 (some .int) (rmk 1 22) [.ref (ga X 0), .int w] (ch X M q nu vc sb tp by_ sh nn fo kp) (fun z g => z = ansI (S_status fo w) ∧ g = ch X M q nu vc sb tp by_ sh nn (fnF fo (S_status fo w)) kp) := by
  refine ct_i (own := RX5) (lv := [some (.ref (ga X 0)), some (.int w), none, none]) (by decide) rfl (Nat.le_of_ble_eq_true rfl) (Nat.le_of_ble_eq_true rfl) rfl (fun C hC hR => ?_)
  have main : (-1 ≤ w ∧ w ≤ 6) → w < 0 → V l X (rmk 1 22) C (ch X M q nu vc sb tp by_ sh nn fo kp) 33 [some (.ref (ga X 0)), some (.int w), some (.int (staF fo w 0)), some (.int (nI 0))] [] := by
    intro hw hneg
    have loop : ∀ j, j ≤ 7 → V l X (rmk 1 22) C (ch X M q nu vc sb tp by_ sh nn fo kp) 33 [some (.ref (ga X 0)), some (.int w), some (.int (staF fo w j)), some (.int (nI j))] [] := by
      refine v_up 7 ?_ ?_
      · refine v_iload_n hC rfl dX5_status_33 (q := 34) rfl ?_
        refine v_bipush hC (v := 7) rfl dX5_status_34 (q := 36) rfl ?_
        refine v_icmp_ge hC dX5_status_36 (t := 54) rfl (q := 39) rfl (fun _ => ?_) (fun h => absurd (by decide) h)
        refine v_iload_n hC rfl dX5_status_54 (q := 55) rfl ?_
        refine hR _ _ _ _ ?_ dX5_status_55
        exact ⟨by simp only [S_status, if_pos hw, ansI, staS_eq], by simp only [S_status, if_pos hw, fnF]⟩
      · intro j hj ih
        refine v_iload_n hC rfl dX5_status_33 (q := 34) rfl ?_
        refine v_bipush hC (v := 7) rfl dX5_status_34 (q := 36) rfl ?_
        refine v_icmp_ge hC dX5_status_36 (t := 54) rfl (q := 39) rfl (fun h => absurd h (nI_ge (b := 7) hj (by decide))) (fun _ => ?_)
        refine v_iload_n hC rfl dX5_status_39 (q := 40) rfl ?_
        refine v_aload_n hC rfl dX5_status_40 (q := 41) rfl ?_
        refine v_get hC fl_X5_42 (k := 0) (by decide) ch_0 rfl dX5_status_41 (q := 44) rfl ?_
        refine v_iload_n hC rfl dX5_status_44 (q := 45) rfl ?_
        refine v_iald hC (k := 46) (by decide) ch_46 (vp_l (ix7 ⟨j, hj⟩)) (nI_clamp (by omega)) dX5_status_45 (q := 46) rfl ?_
        refine v_iadd hC dX5_status_46 (q := 47) rfl ?_
        refine v_istore_2 hC rfl dX5_status_47 (q := 48) rfl ?_
        refine v_iinc_3 hC (v := _ + 1) rfl rfl dX5_status_48 (q := 51) rfl ?_
        refine v_goto hC dX5_status_51 (t := 33) rfl ?_
        refine v_same rfl ?_ rfl ih
        rw [staF, if_pos (Or.inl hneg)]
        simp [nI_1]
    exact loop 0 (Nat.zero_le _)
  refine v_iload_n hC rfl dX5_status_0 (q := 1) rfl ?_
  refine v_iconst hC (v := (-1)) rfl dX5_status_1 (q := 2) rfl ?_
  refine v_icmp_lt hC dX5_status_2 (t := 11) rfl (q := 5) rfl (fun h2 => ?_) (fun h2 => ?_)
  · refine v_aload_n hC rfl dX5_status_11 (q := 12) rfl ?_
    refine v_ldc hC wk_X5_55 dX5_status_12 (q := 14) rfl ?_
    refine v_Vi hC lkV_X5_56 (c_X5_finding (n := 0) (by decide)) rfl (by decide) (k := 0) (by decide) ch_0 rfl rfl (Nat.le_of_ble_eq_true rfl) dX5_status_14 (q := 17) rfl ?_
    rintro _ _ ⟨rfl, rfl⟩
    refine hR _ _ _ _ ?_ dX5_status_17
    have hw : ¬ (-1 ≤ w ∧ w ≤ 6) := fun z => Int32.not_le.mpr h2 z.1
    (refine ⟨?_, ?_⟩ <;> (simp only [S_status, ansI, fnF, if_neg hw]; done))
  · refine v_iload_n hC rfl dX5_status_5 (q := 6) rfl ?_
    refine v_bipush hC (v := 7) rfl dX5_status_6 (q := 8) rfl ?_
    refine v_icmp_lt hC dX5_status_8 (t := 18) rfl (q := 11) rfl (fun h8 => ?_) (fun h8 => ?_)
    · refine v_iload_n hC rfl dX5_status_18 (q := 19) rfl ?_
      refine v_if_lt hC dX5_status_19 (t := 29) rfl (q := 22) rfl (fun h19 => ?_) (fun h19 => ?_)
      · refine v_iconst hC (v := 0) rfl dX5_status_29 (q := 30) rfl ?_
        refine v_istore_2 hC rfl dX5_status_30 (q := 31) rfl ?_
        refine v_iconst hC (v := 0) rfl dX5_status_31 (q := 32) rfl ?_
        refine v_istore_3 hC rfl dX5_status_32 (q := 33) rfl ?_
        exact main ⟨Int32.not_lt.mp h2, w6 h8⟩ h19
      · obtain ⟨K, -, hK, rfl⟩ := w_of' (a := 0) (N := 6) (by decide) (by decide) (Int32.not_lt.mp h19) (w6 h8)
        refine v_aload_n hC rfl dX5_status_22 (q := 23) rfl ?_
        refine v_get hC fl_X5_42 (k := 0) (by decide) ch_0 rfl dX5_status_23 (q := 26) rfl ?_
        refine v_iload_n hC rfl dX5_status_26 (q := 27) rfl ?_
        refine v_iald hC (k := 46) (by decide) ch_46 (vp_l (ix7 ⟨K, by omega⟩)) (nI_clamp (by omega)) dX5_status_27 (q := 28) rfl ?_
        refine hR _ _ _ _ ?_ dX5_status_28
        have hw : -1 ≤ nI K ∧ nI K ≤ 6 := ⟨Int32.not_lt.mp h2, w6 h8⟩
        have e7 := sta_at (fo := fo) (k := K) (by omega) 7 (Nat.le_refl _)
        rw [if_pos (by omega)] at e7
        exact ⟨by simp only [S_status, ansI, if_pos hw, staS_eq, e7], by simp only [S_status, fnF, if_pos hw]⟩
    · refine v_aload_n hC rfl dX5_status_11 (q := 12) rfl ?_
      refine v_ldc hC wk_X5_55 dX5_status_12 (q := 14) rfl ?_
      refine v_Vi hC lkV_X5_56 (c_X5_finding (n := 0) (by decide)) rfl (by decide) (k := 0) (by decide) ch_0 rfl rfl (Nat.le_of_ble_eq_true rfl) dX5_status_14 (q := 17) rfl ?_
      rintro _ _ ⟨rfl, rfl⟩
      refine hR _ _ _ _ ?_ dX5_status_17
      have hw : ¬ (-1 ≤ w ∧ w ≤ 6) := fun z => h8 (w7 z.2)
      (refine ⟨?_, ?_⟩ <;> (simp only [S_status, ansI, fnF, if_neg hw]; done))

def laV (cq : Nat → Int64) (vv : Nat → Nat → Int32) : Nat → Nat → Nat → Int32
  | 0 => vv
  | k + 1 => if laK cq k then va_up (laV cq vv k) k (upd (laV cq vv k k) 1 (cq k).toInt32) else laV cq vv k
def V_lays (bt sz : Nat → Int32) (cq : Nat → Nat → Int64) (n : Nat) (vv : Nat → Nat → Int32) (s : Int32) : Nat → Nat → Int32 := match nT bt s with
  | .inl _ => vv
  | .inr Q => laV (cq Q) vv (min (sz Q).toNatClampNeg n)
theorem laK_iff {cq : Nat → Int64} {j : Nat} : laK cq j = true ↔ (¬ lg_cmp (cq j) 0 < 0 ∧ ¬ 0 < lg_cmp (cq j) 99) := by
  rw [laK, decide_eq_true_eq, lg_cmp_lt, lg_cmp_gt, Int64.not_lt, Int64.not_lt]
  exact Iff.rfl
set_option maxHeartbeats 4000000 in
set_option maxRecDepth 100000 in
theorem c_X5_lays {l : Launch} {X : Gx} {M : MS} {q nu : Nat → Nat → Int32} {vc : Nat → Nat → Nat → Int32} {sb : Nat → Nat → Int32} {tp by_ : Nat → Int32} {sh : Nat → Nat → Int32} {nn : Nat → Nat → Int64} {fo : Nat → Int32} {kp : Int32} {n : Nat} (hN : q 0 1 = nI n) (h8 : n ≤ 8) (hZ : szOK (fun s => sh s 1)) {s : Int32} : Ci l X yX5_lays cX5_lays 8 (some .int) (rmk 2 41) [.ref (ga X 0), .int s] (ch X M q nu vc sb tp by_ sh nn fo kp) (fun z g => z = ansI (S_lays (fun s => sh s 0) (fun s => sh s 1) nn n s) ∧ g = ch X M q nu (va_up vc 0 (V_lays (fun s => sh s 0) (fun s => sh s 1) nn n (vc 0) s)) sb tp by_ sh nn (fnF fo (S_lays (fun s => sh s 0) (fun s => sh s 1) nn n s)) kp) := by
  refine ct_i (own := RX5) (lv := [some (.ref (ga X 0)), some (.int s), none, none, none, none, none, none]) (by decide) rfl (Nat.le_of_ble_eq_true rfl) (Nat.le_of_ble_eq_true rfl) rfl (fun C hC hR => ?_)
  cases e : nT (fun s => sh s 0) s with
  | inl k =>
    have hk := nT_lt e
    have h0 := fnd_ne ⟨k, hk⟩
    refine v_aload_n hC rfl dX5_lays_0 (q := 1) rfl ?_
    refine v_iload_n hC rfl dX5_lays_1 (q := 2) rfl ?_
    refine v_Vi hC lkV_X5_216 c_X5_faultOfSheet rfl (by decide) (k := 0) (by decide) ch_0 rfl rfl (Nat.le_of_ble_eq_true rfl) dX5_lays_2 (q := 5) rfl ?_
    rintro _ _ ⟨rfl, rfl⟩
    rw [e, whyI]
    refine v_istore_2 hC rfl dX5_lays_5 (q := 6) rfl ?_
    refine v_iload_n hC rfl dX5_lays_6 (q := 7) rfl ?_
    refine v_if_eq hC dX5_lays_7 (t := 16) rfl (q := 10) rfl (fun h => absurd h h0) (fun _ => ?_)
    refine v_aload_n hC rfl dX5_lays_10 (q := 11) rfl ?_
    refine v_iload_n hC rfl dX5_lays_11 (q := 12) rfl ?_
    refine v_Vi hC lkV_X5_56 (c_X5_finding hk) rfl (by decide) (k := 0) (by decide) ch_0 rfl rfl (Nat.le_of_ble_eq_true rfl) dX5_lays_12 (q := 15) rfl ?_
    rintro _ _ ⟨rfl, rfl⟩
    refine hR _ _ _ _ ?_ dX5_lays_15
    exact ⟨by simp only [S_lays, e, ansI], by simp only [S_lays, V_lays, e, fnF, up_id]⟩
  | inr Q =>
    obtain ⟨hQ, rfl, hb⟩ := nT_ok e
    obtain ⟨z, hz, hsz⟩ := hZ Q hQ
    have hsz : sh Q 1 = nI z := hsz
    have hzc : (sh Q 1).toNatClampNeg = z := by rw [hsz]; exact nI_clamp (by omega)
    have loop : ∀ j, j ≤ min z n → V l X (rmk 2 41) C (ch X M q nu (va_up vc 0 (laV (nn Q) (vc 0) j)) sb tp by_ sh nn fo kp) 29 [some (.ref (ga X 0)), some (.int (nI Q)), some (.int 0), some (.ref (ga X (38 + 2 * Q))), some (.int (nI (laN (nn Q) j))), some (.int (nI j)), none, none] [] := by
      refine v_up (min z n) ?_ ?_
      · by_cases hzn : z ≤ n
        · rw [Nat.min_eq_left hzn]
          refine v_iload hC rfl dX5_lays_29 (q := 31) rfl ?_
          refine v_aload_n hC rfl dX5_lays_31 (q := 32) rfl ?_
          refine v_getN hC nl_X5_213 (k := 38 + 2 * Q) (by omega) (ch_sh (s := Q) (by omega)) rfl dX5_lays_32 (q := 35) rfl ?_
          refine v_icmp_ge hC dX5_lays_35 (t := 100) rfl (q := 38) rfl (fun _ => ?_) (fun h => absurd (by rw [hsz]; exact Int32.le_refl _) h)
          refine v_iload hC rfl dX5_lays_100 (q := 102) rfl ?_
          refine hR _ _ _ _ ?_ dX5_lays_102
          exact ⟨by simp only [S_lays, e, hzc, ansI, Nat.min_eq_left hzn], by simp only [S_lays, V_lays, e, hzc, fnF, Nat.min_eq_left hzn]⟩
        · rw [Nat.min_eq_right (by omega)]
          refine v_iload hC rfl dX5_lays_29 (q := 31) rfl ?_
          refine v_aload_n hC rfl dX5_lays_31 (q := 32) rfl ?_
          refine v_getN hC nl_X5_213 (k := 38 + 2 * Q) (by omega) (ch_sh (s := Q) (by omega)) rfl dX5_lays_32 (q := 35) rfl ?_
          refine v_icmp_ge hC dX5_lays_35 (t := 100) rfl (q := 38) rfl (fun h => absurd h (by rw [hsz]; exact nI_ge (by omega) (by omega))) (fun _ => ?_)
          refine v_iload hC rfl dX5_lays_38 (q := 40) rfl ?_
          refine v_aload_n hC rfl dX5_lays_40 (q := 41) rfl ?_
          refine v_get hC fl_X5_12 (k := 0) (by decide) ch_0 rfl dX5_lays_41 (q := 44) rfl ?_
          refine v_getN hC nl_X5_173 (k := 1 + 11 * 0) (by decide) (ch_q (b := 0) (by decide)) rfl dX5_lays_44 (q := 47) rfl ?_
          refine v_icmp_ge hC dX5_lays_47 (t := 100) rfl (q := 50) rfl (fun _ => ?_) (fun h => absurd (by rw [hN]; exact Int32.le_refl _) h)
          refine v_iload hC rfl dX5_lays_100 (q := 102) rfl ?_
          refine hR _ _ _ _ ?_ dX5_lays_102
          exact ⟨by simp only [S_lays, e, hzc, ansI, Nat.min_eq_right (show n ≤ z by omega)], by simp only [S_lays, V_lays, e, hzc, fnF, Nat.min_eq_right (show n ≤ z by omega)]⟩
      · intro j hj ih
        refine v_iload hC rfl dX5_lays_29 (q := 31) rfl ?_
        refine v_aload_n hC rfl dX5_lays_31 (q := 32) rfl ?_
        refine v_getN hC nl_X5_213 (k := 38 + 2 * Q) (by omega) (ch_sh (s := Q) (by omega)) rfl dX5_lays_32 (q := 35) rfl ?_
        refine v_icmp_ge hC dX5_lays_35 (t := 100) rfl (q := 38) rfl (fun h => absurd h (by rw [hsz]; exact nI_ge (by omega) (by omega))) (fun _ => ?_)
        refine v_iload hC rfl dX5_lays_38 (q := 40) rfl ?_
        refine v_aload_n hC rfl dX5_lays_40 (q := 41) rfl ?_
        refine v_get hC fl_X5_12 (k := 0) (by decide) ch_0 rfl dX5_lays_41 (q := 44) rfl ?_
        refine v_getN hC nl_X5_173 (k := 1 + 11 * 0) (by decide) (ch_q (b := 0) (by decide)) rfl dX5_lays_44 (q := 47) rfl ?_
        refine v_icmp_ge hC dX5_lays_47 (t := 100) rfl (q := 50) rfl (fun h => absurd h (by rw [hN]; exact nI_ge (by omega) (by omega))) (fun _ => ?_)
        refine v_aload_n hC rfl dX5_lays_50 (q := 51) rfl ?_
        refine v_getN hC nl_X5_219 (k := 38 + 2 * Q) (by omega) (ch_sh (s := Q) (by omega)) rfl dX5_lays_51 (q := 54) rfl ?_
        refine v_iload hC rfl dX5_lays_54 (q := 56) rfl ?_
        refine v_lald hC (k := 39 + 2 * Q) (by omega) (ch_nn (s := Q) (by omega)) (ix40 (by omega)) (j := j) (nI_clamp (by omega)) dX5_lays_56 (q := 57) rfl ?_
        refine v_lstore_6 hC rfl dX5_lays_57 (q := 59) rfl ?_
        refine v_lload hC rfl dX5_lays_59 (q := 61) rfl ?_
        refine v_lconst hC (v := 0) rfl dX5_lays_61 (q := 62) rfl ?_
        refine v_lcmp hC dX5_lays_62 (q := 63) rfl ?_
        refine v_if_lt hC dX5_lays_63 (t := 94) rfl (q := 66) rfl (fun h63 => ?_) (fun h63 => ?_)
        · refine v_iinc_5 hC (v := _ + 1) rfl rfl dX5_lays_94 (q := 97) rfl ?_
          refine v_goto hC dX5_lays_97 (t := 29) rfl ?_
          have hl : ¬ laK (nn Q) j = true := fun z => (laK_iff.mp z).1 h63
          refine v_weak (lv' := [some (.ref (ga X 0)), some (.int (nI Q)), some (.int 0), some (.ref (ga X (38 + 2 * Q))), some (.int (nI (laN (nn Q) j))), some (.int (nI j + 1)), none, none]) ⟨rfl, rfl, rfl, rfl, rfl, rfl, trivial⟩ ?_
          refine v_same ?_ ?_ rfl ih
          · rw [laV, if_neg hl]
          · rw [laN, if_neg hl]; simp [nI_1]
        · refine v_lload hC rfl dX5_lays_66 (q := 68) rfl ?_
          refine v_ldc2 hC wl_X5_242 dX5_lays_68 (q := 71) rfl ?_
          refine v_lcmp hC dX5_lays_71 (q := 72) rfl ?_
          refine v_if_gt hC dX5_lays_72 (t := 94) rfl (q := 75) rfl (fun h72 => ?_) (fun h72 => ?_)
          · refine v_iinc_5 hC (v := _ + 1) rfl rfl dX5_lays_94 (q := 97) rfl ?_
            refine v_goto hC dX5_lays_97 (t := 29) rfl ?_
            have hl : ¬ laK (nn Q) j = true := fun z => (laK_iff.mp z).2 h72
            refine v_weak (lv' := [some (.ref (ga X 0)), some (.int (nI Q)), some (.int 0), some (.ref (ga X (38 + 2 * Q))), some (.int (nI (laN (nn Q) j))), some (.int (nI j + 1)), none, none]) ⟨rfl, rfl, rfl, rfl, rfl, rfl, trivial⟩ ?_
            refine v_same ?_ ?_ rfl ih
            · rw [laV, if_neg hl]
            · rw [laN, if_neg hl]; simp [nI_1]
          · refine v_aload_n hC rfl dX5_lays_75 (q := 76) rfl ?_
            refine v_get hC fl_X5_12 (k := 0) (by decide) ch_0 rfl dX5_lays_76 (q := 79) rfl ?_
            refine v_getN hC nl_X5_76 (k := 1 + 11 * 0) (by decide) (ch_q (b := 0) (by decide)) rfl dX5_lays_79 (q := 82) rfl ?_
            refine v_iload hC rfl dX5_lays_82 (q := 84) rfl ?_
            refine v_aald hC 2 (k := 2 + 11 * 0) (by decide) (ch_p (b := 0) (by decide)) rfl (ix8' (by omega)) (j := j) (nI_clamp (by omega)) rfl dX5_lays_84 (q := 85) rfl ?_
            refine v_lload hC rfl dX5_lays_85 (q := 87) rfl ?_
            refine v_l2i hC dX5_lays_87 (q := 88) rfl ?_
            refine v_putN hC nl_X5_98 pt_0_2 (k := 4 + 11 * 0 + j) (by omega) (ch_o (b := 0) (k := j) (by decide) (Or.inl (by omega))) (Nat.le_of_ble_eq_true rfl) rfl rfl (ch_of1 (by decide) (Or.inl (by omega)) _) dX5_lays_88 (q := 91) rfl ?_
            refine v_iinc_4 hC (v := _ + 1) rfl rfl dX5_lays_91 (q := 94) rfl ?_
            refine v_iinc_5 hC (v := _ + 1) rfl rfl dX5_lays_94 (q := 97) rfl ?_
            refine v_goto hC dX5_lays_97 (t := 29) rfl ?_
            have hl : laK (nn Q) j = true := laK_iff.mpr ⟨h63, h72⟩
            refine v_weak (lv' := [some (.ref (ga X 0)), some (.int (nI Q)), some (.int 0), some (.ref (ga X (38 + 2 * Q))), some (.int (nI (laN (nn Q) j) + 1)), some (.int (nI j + 1)), none, none]) ⟨rfl, rfl, rfl, rfl, rfl, rfl, trivial⟩ ?_
            refine v_same ?_ ?_ rfl ih
            · rw [laV, if_pos hl, up_up, va_up_self]
            · rw [laN, if_pos hl]; simp [nI_1]
    refine v_aload_n hC rfl dX5_lays_0 (q := 1) rfl ?_
    refine v_iload_n hC rfl dX5_lays_1 (q := 2) rfl ?_
    refine v_Vi hC lkV_X5_216 c_X5_faultOfSheet rfl (by decide) (k := 0) (by decide) ch_0 rfl rfl (Nat.le_of_ble_eq_true rfl) dX5_lays_2 (q := 5) rfl ?_
    rintro _ _ ⟨rfl, rfl⟩
    rw [e, whyI]
    refine v_istore_2 hC rfl dX5_lays_5 (q := 6) rfl ?_
    refine v_iload_n hC rfl dX5_lays_6 (q := 7) rfl ?_
    refine v_if_eq hC dX5_lays_7 (t := 16) rfl (q := 10) rfl (fun _ => ?_) (fun h => absurd rfl h)
    refine v_aload_n hC rfl dX5_lays_16 (q := 17) rfl ?_
    refine v_get hC fl_X5_38 (k := 0) (by decide) ch_0 rfl dX5_lays_17 (q := 20) rfl ?_
    refine v_iload_n hC rfl dX5_lays_20 (q := 21) rfl ?_
    refine v_aald hC 3 (k := 37) (by decide) ch_37 rfl (ix4' (by omega)) (j := Q) (nI_clamp (by omega)) rfl dX5_lays_21 (q := 22) rfl ?_
    refine v_astore_3 hC rfl dX5_lays_22 (q := 23) rfl ?_
    refine v_iconst hC (v := 0) rfl dX5_lays_23 (q := 24) rfl ?_
    refine v_istore_4 hC rfl dX5_lays_24 (q := 26) rfl ?_
    refine v_iconst hC (v := 0) rfl dX5_lays_26 (q := 27) rfl ?_
    refine v_istore_5 hC rfl dX5_lays_27 (q := 29) rfl ?_
    refine v_same ?_ rfl rfl (loop 0 (Nat.zero_le _))
    rw [laV, up_id]
