theorem v_copyl {l : Launch} {X : Gx} {R : Room} {C : Cx} {f : Hp} {pc q : Nat} {lv : Lv} {st : List Value} {cc : ByteArray} (hC : cOK X R C cc RX5) {k0 k1 n0 n1 : Nat} {f0 g0 : Nat → Int64} (hk0 : k0 < 56) (hf0 : f k0 = .inl (gc X 1, n0, .inr (.inl f0))) (hk1 : k1 < 56) (hf1 : f k1 = .inl (gc X 1, n1, .inr (.inl g0))) {a b n : Nat} (ha : a + n ≤ n0) (hb : b + n ≤ n1) (h0 : n0 < 1000) (h1 : n1 < 1000) (hR : 1 ≤ R.frames ∧ (st.map fun v => v.category).sum + (nativeFrameWords "java/lang/System" "arraycopy" 5 + 11) ≤ R.locals) {g : Hp} (hg : va_up f k1 (.inl (gc X 1, n1, .inr (.inl (va_cpy f0 g0 a b n)))) = g) (d : decode cc pc = .ok (.invokestatic 236, 3)) (hq : pc + 3 = q) (kk : V l X R C g q lv st) : V l X R C f pc lv (.int (nI n) :: .int (nI b) :: .ref (ga X k1) :: .int (nI a) :: .ref (ga X k0) :: st) := by
  obtain ⟨p, e, s, m, args, below, meth, c, nL, Q, kc, ks⟩ := C
  subst hq
  intro H locs ls hP hS hl
  subst hg
  have ea : (nI a).toNatClampNeg = a := nI_clamp (by omega)
  have eb : (nI b).toNatClampNeg = b := nI_clamp (by omega)
  have en : (nI n).toNatClampNeg = n := nI_clamp (by omega)
  refine va_copyl (D := gD X) hC.1 hC.2.1 (hC.2.2.1.trans hl.1.symm) hC.2.2.2.1 (hC.2.2.2.2.1 _ wm_X5_236) (hC.2.2.2.2.1 _ wv_arraycopy) (hC.2.2.2.2.1 _ wt_arraycopy) (hC.2.2.2.2.1 _ wi_J10) hC.2.2.2.2.2.1.2.1 hP (gw_D hC.2.2.2.2.2.1.1) hS k0 k1 1 1 (by rw [gw_at hk0, hf0]) (by rw [gw_at hk1, hf1]) rfl rfl rfl (nI_pos (by omega)) (nI_pos (by omega)) (nI_pos (by omega)) (by rw [ea, en]; exact ha) (by rw [eb, en]; exact hb) (fun i _ => rfl) hR.1 hR.2 d ?_
  rw [ea, eb, en]
  exact fun H1 locs1 hP1 _ hS1 => kk H1 locs1 ls (by rw [← gw_up]; exact hP1) hS1 hl
theorem has_iff {z : Nat} (hz : z ≤ 40) {fr n : Int32} : (0 ≤ fr ∧ 0 ≤ n ∧ n ≤ nI z ∧ fr ≤ nI z - n) ↔ (0 ≤ n ∧ 0 ≤ fr ∧ n ≤ nI z - fr) := by
  constructor
  · rintro ⟨h1, h2, h3, h4⟩
    refine ⟨h2, h1, ?_⟩
    rw [fa_le, sub_toInt hz h1]
    rw [fa_le, sub_toInt hz h2] at h4
    omega
  · rintro ⟨h1, h2, h3⟩
    rw [fa_le, sub_toInt hz h2] at h3
    refine ⟨h2, h1, ?_, ?_⟩
    · rw [fa_le, nI_toInt (by omega)]
      rw [fa_le] at h2
      have h2' : 0 ≤ fr.toInt := h2
      omega
    · rw [fa_le, sub_toInt hz h1]
      omega
def N_copy (bt sz : Nat → Int32) (nn : Nat → Nat → Int64) (s a t b n : Int32) : Nat → Nat → Int64 := match nC bt sz s a t b n with
  | .inl _ => nn
  | .inr (Q, U) => va_up nn U (va_cpy (nn Q) (nn U) a.toNatClampNeg b.toNatClampNeg n.toNatClampNeg)
set_option maxHeartbeats 4000000 in
set_option maxRecDepth 100000 in
theorem c_X5_copy {l : Launch} {X : Gx} {M : MS} {q nu : Nat → Nat → Int32} {vc : Nat → Nat → Nat → Int32} {sb : Nat → Nat → Int32} {tp by_ : Nat → Int32} {sh : Nat → Nat → Int32} {nn : Nat → Nat → Int64} {fo : Nat → Int32} {kp : Int32} (hZ : szOK (fun s => sh s 1)) {s a t b n : Int32} : Ci l X yX5_copy cX5_copy 8 (some .int) (rmk 1 60) [.ref (ga X 0), .int s, .int a, .int t, .int b, .int n] (ch X M q nu vc sb tp by_ sh nn fo kp) (fun z g => z = ansI (S_copy (fun s => sh s 0) (fun s => sh s 1) s a t b n) ∧ g = ch X M q nu vc sb tp by_ sh (N_copy (fun s => sh s 0) (fun s => sh s 1) nn s a t b n) (fnF fo (S_copy (fun s => sh s 0) (fun s => sh s 1) s a t b n)) kp) := by
  refine ct_i (own := RX5) (lv := [some (.ref (ga X 0)), some (.int s), some (.int a), some (.int t), some (.int b), some (.int n), none, none]) (by decide) rfl (Nat.le_of_ble_eq_true rfl) (Nat.le_of_ble_eq_true rfl) rfl (fun C hC hR => ?_)
  refine v_iload_n hC rfl dX5_copy_0 (q := 1) rfl ?_
  refine v_Si hC lkS_X5_206 c_X5_isSheet rfl (by decide) rfl (Nat.le_of_ble_eq_true rfl) dX5_copy_1 (q := 4) rfl ?_
  rintro _ _ ⟨⟨⟨Q1, hQ1, rfl⟩, rfl⟩ | ⟨hc1, rfl⟩, rfl⟩
  · refine v_if_eq hC dX5_copy_4 (t := 14) rfl (q := 7) rfl (fun h => absurd h (by decide)) (fun _ => ?_)
    refine v_iload_n hC rfl dX5_copy_7 (q := 8) rfl ?_
    refine v_Si hC lkS_X5_206 c_X5_isSheet rfl (by decide) rfl (Nat.le_of_ble_eq_true rfl) dX5_copy_8 (q := 11) rfl ?_
    rintro _ _ ⟨⟨⟨Q8, hQ8, rfl⟩, rfl⟩ | ⟨hc8, rfl⟩, rfl⟩
    · refine v_if_ne hC dX5_copy_11 (t := 21) rfl (q := 14) rfl (fun _ => ?_) (fun h => absurd h (by decide))
      refine v_aload_n hC rfl dX5_copy_21 (q := 22) rfl ?_
      refine v_get hC fl_X5_38 (k := 0) (by decide) ch_0 rfl dX5_copy_22 (q := 25) rfl ?_
      refine v_iload_n hC rfl dX5_copy_25 (q := 26) rfl ?_
      refine v_aald hC 3 (k := 37) (by decide) ch_37 rfl (ix4' (by omega)) (j := Q1) (nI_clamp (by omega)) rfl dX5_copy_26 (q := 27) rfl ?_
      refine v_astore_6 hC rfl dX5_copy_27 (q := 29) rfl ?_
      refine v_aload_n hC rfl dX5_copy_29 (q := 30) rfl ?_
      refine v_get hC fl_X5_38 (k := 0) (by decide) ch_0 rfl dX5_copy_30 (q := 33) rfl ?_
      refine v_iload_n hC rfl dX5_copy_33 (q := 34) rfl ?_
      refine v_aald hC 3 (k := 37) (by decide) ch_37 rfl (ix4' (by omega)) (j := Q8) (nI_clamp (by omega)) rfl dX5_copy_34 (q := 35) rfl ?_
      refine v_astore_7 hC rfl dX5_copy_35 (q := 37) rfl ?_
      refine v_aload hC rfl dX5_copy_37 (q := 39) rfl ?_
      refine v_Vi hC lkV_X5_226 (c_X2_isMissing (s := Q1) (by omega)) rfl (by decide) (k := 38 + 2 * Q1) (by omega) (ch_sh (s := Q1) (by omega)) rfl rfl (Nat.le_of_ble_eq_true rfl) dX5_copy_39 (q := 42) rfl ?_
      rintro _ _ ⟨⟨hc39, rfl⟩ | ⟨hc39, rfl⟩, rfl⟩
      · refine v_if_ne hC dX5_copy_42 (t := 53) rfl (q := 45) rfl (fun _ => ?_) (fun h => absurd h (by decide))
        refine v_aload_n hC rfl dX5_copy_53 (q := 54) rfl ?_
        refine v_ldc hC wk_X5_229 dX5_copy_54 (q := 56) rfl ?_
        refine v_Vi hC lkV_X5_56 (c_X5_finding (n := 5) (by decide)) rfl (by decide) (k := 0) (by decide) ch_0 rfl rfl (Nat.le_of_ble_eq_true rfl) dX5_copy_56 (q := 59) rfl ?_
        rintro _ _ ⟨rfl, rfl⟩
        refine hR _ _ _ _ ?_ dX5_copy_59
        have hnc : nC (fun s => sh s 0) (fun s => sh s 1) (nI Q1) a (nI Q8) b n = .inl 5 := by
          simp only [nC, pIx_nI hQ1 (by decide), pIx_nI hQ8 (by decide), if_pos (show sh Q1 0 = 0 ∨ sh Q8 0 = 0 from Or.inl hc39)]
        (refine ⟨?_, ?_⟩ <;> (simp only [S_copy, N_copy, hnc, ansI, fnF]; done))
      · refine v_if_ne hC dX5_copy_42 (t := 53) rfl (q := 45) rfl (fun h => absurd h (by decide)) (fun _ => ?_)
        refine v_aload hC rfl dX5_copy_45 (q := 47) rfl ?_
        refine v_Vi hC lkV_X5_226 (c_X2_isMissing (s := Q8) (by omega)) rfl (by decide) (k := 38 + 2 * Q8) (by omega) (ch_sh (s := Q8) (by omega)) rfl rfl (Nat.le_of_ble_eq_true rfl) dX5_copy_47 (q := 50) rfl ?_
        rintro _ _ ⟨⟨hc47, rfl⟩ | ⟨hc47, rfl⟩, rfl⟩
        · refine v_if_eq hC dX5_copy_50 (t := 60) rfl (q := 53) rfl (fun h => absurd h (by decide)) (fun _ => ?_)
          refine v_aload_n hC rfl dX5_copy_53 (q := 54) rfl ?_
          refine v_ldc hC wk_X5_229 dX5_copy_54 (q := 56) rfl ?_
          refine v_Vi hC lkV_X5_56 (c_X5_finding (n := 5) (by decide)) rfl (by decide) (k := 0) (by decide) ch_0 rfl rfl (Nat.le_of_ble_eq_true rfl) dX5_copy_56 (q := 59) rfl ?_
          rintro _ _ ⟨rfl, rfl⟩
          refine hR _ _ _ _ ?_ dX5_copy_59
          have hnc : nC (fun s => sh s 0) (fun s => sh s 1) (nI Q1) a (nI Q8) b n = .inl 5 := by
            simp only [nC, pIx_nI hQ1 (by decide), pIx_nI hQ8 (by decide), if_pos (show sh Q1 0 = 0 ∨ sh Q8 0 = 0 from Or.inr hc47)]
          (refine ⟨?_, ?_⟩ <;> (simp only [S_copy, N_copy, hnc, ansI, fnF]; done))
        · refine v_if_eq hC dX5_copy_50 (t := 60) rfl (q := 53) rfl (fun _ => ?_) (fun h => absurd h (by decide))
          refine v_aload hC rfl dX5_copy_60 (q := 62) rfl ?_
          refine v_getN hC nl_X5_230 (k := 38 + 2 * Q1) (by omega) (ch_sh (s := Q1) (by omega)) rfl dX5_copy_62 (q := 65) rfl ?_
          refine v_aload hC rfl dX5_copy_65 (q := 67) rfl ?_
          refine v_getN hC nl_X5_230 (k := 38 + 2 * Q8) (by omega) (ch_sh (s := Q8) (by omega)) rfl dX5_copy_67 (q := 70) rfl ?_
          refine v_icmp_eq hC dX5_copy_70 (t := 80) rfl (q := 73) rfl (fun h70 => ?_) (fun h70 => ?_)
          · refine v_aload hC rfl dX5_copy_80 (q := 82) rfl ?_
            refine v_iload_n hC rfl dX5_copy_82 (q := 83) rfl ?_
            refine v_iload hC rfl dX5_copy_83 (q := 85) rfl ?_
            refine v_Vi hC lkV_X5_233 (c_X2_has (s := Q1) (by omega)) rfl (by decide) (k := 38 + 2 * Q1) (by omega) (ch_sh (s := Q1) (by omega)) rfl rfl (Nat.le_of_ble_eq_true rfl) dX5_copy_85 (q := 88) rfl ?_
            rintro _ _ ⟨⟨hc85, rfl⟩ | ⟨hc85, rfl⟩, rfl⟩
            · refine v_if_eq hC dX5_copy_88 (t := 103) rfl (q := 91) rfl (fun h => absurd h (by decide)) (fun _ => ?_)
              refine v_aload hC rfl dX5_copy_91 (q := 93) rfl ?_
              refine v_iload hC rfl dX5_copy_93 (q := 95) rfl ?_
              refine v_iload hC rfl dX5_copy_95 (q := 97) rfl ?_
              refine v_Vi hC lkV_X5_233 (c_X2_has (s := Q8) (by omega)) rfl (by decide) (k := 38 + 2 * Q8) (by omega) (ch_sh (s := Q8) (by omega)) rfl rfl (Nat.le_of_ble_eq_true rfl) dX5_copy_97 (q := 100) rfl ?_
              rintro _ _ ⟨⟨hc97, rfl⟩ | ⟨hc97, rfl⟩, rfl⟩
              · refine v_if_ne hC dX5_copy_100 (t := 110) rfl (q := 103) rfl (fun _ => ?_) (fun h => absurd h (by decide))
                obtain ⟨z1, hz1, ez1⟩ := hZ Q1 hQ1
                obtain ⟨z8, hz8, ez8⟩ := hZ Q8 hQ8
                have ez1 : sh Q1 1 = nI z1 := ez1
                have ez8 : sh Q8 1 = nI z8 := ez8
                have hcond : 0 ≤ n ∧ 0 ≤ a ∧ 0 ≤ b ∧ n ≤ sh Q1 1 - a ∧ n ≤ sh Q8 1 - b := by
                  rw [ez1] at hc85
                  rw [ez8] at hc97
                  have i1 := (has_iff hz1).mp hc85
                  have i8 := (has_iff hz8).mp hc97
                  rw [ez1, ez8]
                  exact ⟨i1.1, i1.2.1, i8.2.1, i1.2.2, i8.2.2⟩
                have hnc : nC (fun s => sh s 0) (fun s => sh s 1) (nI Q1) a (nI Q8) b n = .inr (Q1, Q8) := by
                  simp only [nC, pIx_nI hQ1 (by decide), pIx_nI hQ8 (by decide), if_neg (show ¬ (sh Q1 0 = 0 ∨ sh Q8 0 = 0) from fun z => z.elim hc39 hc47), if_pos h70, if_pos hcond]
                obtain ⟨-, -, -, -, A, B, N, rfl, rfl, rfl, hA, hB, -, -⟩ := nC_ok hZ hnc
                have ca : (nI A).toNatClampNeg = A := nI_clamp (by omega)
                have cb : (nI B).toNatClampNeg = B := nI_clamp (by omega)
                have cn : (nI N).toNatClampNeg = N := nI_clamp (by omega)
                refine v_aload hC rfl dX5_copy_110 (q := 112) rfl ?_
                refine v_getN hC nl_X5_219 (k := 38 + 2 * Q1) (by omega) (ch_sh (s := Q1) (by omega)) rfl dX5_copy_112 (q := 115) rfl ?_
                refine v_iload_n hC rfl dX5_copy_115 (q := 116) rfl ?_
                refine v_aload hC rfl dX5_copy_116 (q := 118) rfl ?_
                refine v_getN hC nl_X5_219 (k := 38 + 2 * Q8) (by omega) (ch_sh (s := Q8) (by omega)) rfl dX5_copy_118 (q := 121) rfl ?_
                refine v_iload hC rfl dX5_copy_121 (q := 123) rfl ?_
                refine v_iload hC rfl dX5_copy_123 (q := 125) rfl ?_
                refine v_copyl hC (k0 := 39 + 2 * Q1) (by omega) (ch_nn hQ1) (k1 := 39 + 2 * Q8) (by omega) (ch_nn hQ8) (a := A) (b := B) (n := N) (by omega) (by omega) (by decide) (by decide) ⟨by decide, Nat.le_of_ble_eq_true rfl⟩ (ch_nu hQ8 _) dX5_copy_125 (q := 128) rfl ?_
                refine v_iload hC rfl dX5_copy_128 (q := 130) rfl ?_
                refine hR _ _ _ _ ?_ dX5_copy_130
                (refine ⟨?_, ?_⟩ <;> (simp only [S_copy, N_copy, hnc, ansI, fnF, ca, cb, cn]; done))
              · refine v_if_ne hC dX5_copy_100 (t := 110) rfl (q := 103) rfl (fun h => absurd h (by decide)) (fun _ => ?_)
                refine v_aload_n hC rfl dX5_copy_103 (q := 104) rfl ?_
                refine v_ldc hC wk_X5_55 dX5_copy_104 (q := 106) rfl ?_
                refine v_Vi hC lkV_X5_56 (c_X5_finding (n := 0) (by decide)) rfl (by decide) (k := 0) (by decide) ch_0 rfl rfl (Nat.le_of_ble_eq_true rfl) dX5_copy_106 (q := 109) rfl ?_
                rintro _ _ ⟨rfl, rfl⟩
                refine hR _ _ _ _ ?_ dX5_copy_109
                obtain ⟨z1, hz1, ez1⟩ := hZ Q1 hQ1
                obtain ⟨z8, hz8, ez8⟩ := hZ Q8 hQ8
                have ez1 : sh Q1 1 = nI z1 := ez1
                have ez8 : sh Q8 1 = nI z8 := ez8
                have hcond : ¬ (0 ≤ n ∧ 0 ≤ a ∧ 0 ≤ b ∧ n ≤ sh Q1 1 - a ∧ n ≤ sh Q8 1 - b) := by
                  rintro ⟨y1, y2, y3, y4, y5⟩
                  rw [ez8] at hc97 y5
                  exact hc97 ((has_iff hz8).mpr ⟨y1, y3, y5⟩)
                have hnc : nC (fun s => sh s 0) (fun s => sh s 1) (nI Q1) a (nI Q8) b n = .inl 0 := by
                  simp only [nC, pIx_nI hQ1 (by decide), pIx_nI hQ8 (by decide), if_neg (show ¬ (sh Q1 0 = 0 ∨ sh Q8 0 = 0) from fun z => z.elim hc39 hc47), if_pos h70, if_neg hcond]
                (refine ⟨?_, ?_⟩ <;> (simp only [S_copy, N_copy, hnc, ansI, fnF]; done))
            · refine v_if_eq hC dX5_copy_88 (t := 103) rfl (q := 91) rfl (fun _ => ?_) (fun h => absurd h (by decide))
              refine v_aload_n hC rfl dX5_copy_103 (q := 104) rfl ?_
              refine v_ldc hC wk_X5_55 dX5_copy_104 (q := 106) rfl ?_
              refine v_Vi hC lkV_X5_56 (c_X5_finding (n := 0) (by decide)) rfl (by decide) (k := 0) (by decide) ch_0 rfl rfl (Nat.le_of_ble_eq_true rfl) dX5_copy_106 (q := 109) rfl ?_
              rintro _ _ ⟨rfl, rfl⟩
              refine hR _ _ _ _ ?_ dX5_copy_109
              obtain ⟨z1, hz1, ez1⟩ := hZ Q1 hQ1
              obtain ⟨z8, hz8, ez8⟩ := hZ Q8 hQ8
              have ez1 : sh Q1 1 = nI z1 := ez1
              have ez8 : sh Q8 1 = nI z8 := ez8
              have hcond : ¬ (0 ≤ n ∧ 0 ≤ a ∧ 0 ≤ b ∧ n ≤ sh Q1 1 - a ∧ n ≤ sh Q8 1 - b) := by
                rintro ⟨y1, y2, y3, y4, y5⟩
                rw [ez1] at hc85 y4
                exact hc85 ((has_iff hz1).mpr ⟨y1, y2, y4⟩)
              have hnc : nC (fun s => sh s 0) (fun s => sh s 1) (nI Q1) a (nI Q8) b n = .inl 0 := by
                simp only [nC, pIx_nI hQ1 (by decide), pIx_nI hQ8 (by decide), if_neg (show ¬ (sh Q1 0 = 0 ∨ sh Q8 0 = 0) from fun z => z.elim hc39 hc47), if_pos h70, if_neg hcond]
              (refine ⟨?_, ?_⟩ <;> (simp only [S_copy, N_copy, hnc, ansI, fnF]; done))
          · refine v_aload_n hC rfl dX5_copy_73 (q := 74) rfl ?_
            refine v_ldc hC wk_X5_97 dX5_copy_74 (q := 76) rfl ?_
            refine v_Vi hC lkV_X5_56 (c_X5_finding (n := 2) (by decide)) rfl (by decide) (k := 0) (by decide) ch_0 rfl rfl (Nat.le_of_ble_eq_true rfl) dX5_copy_76 (q := 79) rfl ?_
            rintro _ _ ⟨rfl, rfl⟩
            refine hR _ _ _ _ ?_ dX5_copy_79
            have hnc : nC (fun s => sh s 0) (fun s => sh s 1) (nI Q1) a (nI Q8) b n = .inl 2 := by
              simp only [nC, pIx_nI hQ1 (by decide), pIx_nI hQ8 (by decide), if_neg (show ¬ (sh Q1 0 = 0 ∨ sh Q8 0 = 0) from fun z => z.elim hc39 hc47), if_neg h70]
            (refine ⟨?_, ?_⟩ <;> (simp only [S_copy, N_copy, hnc, ansI, fnF]; done))
    · refine v_if_ne hC dX5_copy_11 (t := 21) rfl (q := 14) rfl (fun h => absurd h (by decide)) (fun _ => ?_)
      refine v_aload_n hC rfl dX5_copy_14 (q := 15) rfl ?_
      refine v_ldc hC wk_X5_55 dX5_copy_15 (q := 17) rfl ?_
      refine v_Vi hC lkV_X5_56 (c_X5_finding (n := 0) (by decide)) rfl (by decide) (k := 0) (by decide) ch_0 rfl rfl (Nat.le_of_ble_eq_true rfl) dX5_copy_17 (q := 20) rfl ?_
      rintro _ _ ⟨rfl, rfl⟩
      refine hR _ _ _ _ ?_ dX5_copy_20
      have hnc : nC (fun s => sh s 0) (fun s => sh s 1) (nI Q1) a t b n = .inl 0 := by
        simp only [nC, pIx_no (by decide) hc8]
        cases pIx 4 (nI Q1) <;> rfl
      (refine ⟨?_, ?_⟩ <;> (simp only [S_copy, N_copy, hnc, ansI, fnF]; done))
  · refine v_if_eq hC dX5_copy_4 (t := 14) rfl (q := 7) rfl (fun _ => ?_) (fun h => absurd h (by decide))
    refine v_aload_n hC rfl dX5_copy_14 (q := 15) rfl ?_
    refine v_ldc hC wk_X5_55 dX5_copy_15 (q := 17) rfl ?_
    refine v_Vi hC lkV_X5_56 (c_X5_finding (n := 0) (by decide)) rfl (by decide) (k := 0) (by decide) ch_0 rfl rfl (Nat.le_of_ble_eq_true rfl) dX5_copy_17 (q := 20) rfl ?_
    rintro _ _ ⟨rfl, rfl⟩
    refine hR _ _ _ _ ?_ dX5_copy_20
    (refine ⟨?_, ?_⟩ <;> (simp only [S_copy, N_copy, nC, pIx_no (by decide) hc1, ansI, fnF]; done))

def N_book (bt sz : Nat → Int32) (g : Nat → Nat → Int32) (nn : Nat → Nat → Int64) (n : Nat) (s p : Int32) : Nat → Nat → Int64 := match nA bt n s p with
  | .inl _ => nn
  | .inr (Q, P) => va_up nn Q (mixN (sz Q).toNatClampNeg (bkE (bt Q) (nI P) (g P)) (nn Q))
theorem okV_5 {v : Nat → Int32} {x : Int32} (h : okV v) (hx : 0 ≤ x ∧ x ≤ 99) : okV (upd v 5 x) := by
  obtain ⟨h0, h1, h2, h3, h4, h5, h6⟩ := h
  exact ⟨h0, h1, h2, h3, h4, hx, h6⟩
set_option maxHeartbeats 4000000 in
set_option maxRecDepth 100000 in
theorem c_X5_book {l : Launch} {X : Gx} {M : MS} {q nu : Nat → Nat → Int32} {vc : Nat → Nat → Nat → Int32} {sb : Nat → Nat → Int32} {tp by_ : Nat → Int32} {sh : Nat → Nat → Int32} {nn : Nat → Nat → Int64} {fo : Nat → Int32} {kp : Int32} {n : Nat} (hN : q 0 1 = nI n) (h8 : n ≤ 8) (hnu : ∀ p, p < n → nu 0 p = nI p) (hok : ∀ p, p < n → okV (vc 0 p)) (hZ : szOK (fun s => sh s 1)) {s p : Int32} : Ci l X yX5_book cX5_book 7 (some .int) (rmk 4 87) [.ref (ga X 0), .int s, .int p] (ch X M q nu vc sb tp by_ sh nn fo kp) (fun z g => z = ansI (S_book (fun s => sh s 0) (fun s => sh s 1) n s p) ∧ ∃ q2 n2 v2 sb2, g = ch X M (va_up q 2 q2) (va_up nu 2 n2) (va_up vc 2 v2) sb2 tp by_ sh (N_book (fun s => sh s 0) (fun s => sh s 1) (vc 0) nn n s p) (fnF fo (S_book (fun s => sh s 0) (fun s => sh s 1) n s p)) kp) := by
  refine ct_i (own := RX5) (lv := [some (.ref (ga X 0)), some (.int s), some (.int p), none, none, none, none]) (by decide) rfl (Nat.le_of_ble_eq_true rfl) (Nat.le_of_ble_eq_true rfl) rfl (fun C hC hR => ?_)
  cases e : nA (fun s => sh s 0) n s p with
  | inl k =>
    have hk := nA_lt e
    have h0 := fnd_ne ⟨k, hk⟩
    refine v_aload_n hC rfl dX5_book_0 (q := 1) rfl ?_
    refine v_iload_n hC rfl dX5_book_1 (q := 2) rfl ?_
    refine v_iload_n hC rfl dX5_book_2 (q := 3) rfl ?_
    refine v_Vi hC lkV_X5_244 (c_X5_faultOfSheetFor hN h8) rfl (by decide) (k := 0) (by decide) ch_0 rfl rfl (Nat.le_of_ble_eq_true rfl) dX5_book_3 (q := 6) rfl ?_
    rintro _ _ ⟨rfl, rfl⟩
    rw [e, whyA]
    refine v_istore_3 hC rfl dX5_book_6 (q := 7) rfl ?_
    refine v_iload_n hC rfl dX5_book_7 (q := 8) rfl ?_
    refine v_if_eq hC dX5_book_8 (t := 17) rfl (q := 11) rfl (fun h => absurd h h0) (fun _ => ?_)
    refine v_aload_n hC rfl dX5_book_11 (q := 12) rfl ?_
    refine v_iload_n hC rfl dX5_book_12 (q := 13) rfl ?_
    refine v_Vi hC lkV_X5_56 (c_X5_finding hk) rfl (by decide) (k := 0) (by decide) ch_0 rfl rfl (Nat.le_of_ble_eq_true rfl) dX5_book_13 (q := 16) rfl ?_
    rintro _ _ ⟨rfl, rfl⟩
    refine hR _ _ _ _ ?_ dX5_book_16
    refine ⟨by simp only [S_book, e, ansI], q 2, nu 2, vc 2, sb, ?_⟩
    rw [up_id, up_id, up_id]
    simp only [S_book, N_book, e, fnF]
  | inr x =>
    obtain ⟨Q, P⟩ := x
    obtain ⟨hQ, rfl, hb, hP, rfl⟩ := nA_ok h8 e
    obtain ⟨z, hz, hsz⟩ := hZ Q hQ
    have hsz : sh Q 1 = nI z := hsz
    have hzc : (sh Q 1).toNatClampNeg = z := by rw [hsz]; exact nI_clamp (by omega)
    have hP8 : P < 8 := by omega
    have loop : ∀ j, j ≤ z → V l X (rmk 4 87) C (trH X M q nu vc sb tp by_ sh (va_up nn Q (mixN j (bkE (sh Q 0) (nI P) (vc 0 P)) (nn Q))) fo kp (nI P) (itD (nI P) (vc 0 P) j)) 35 [some (.ref (ga X 0)), some (.int (nI Q)), some (.int (nI P)), some (.int 0), some (.ref (ga X (38 + 2 * Q))), some (.ref (ga X (4 + 11 * 2 + 8))), some (.int (nI j))] [] := by
      refine v_up z ?_ ?_
      · refine v_iload hC rfl dX5_book_35 (q := 37) rfl ?_
        refine v_aload hC rfl dX5_book_37 (q := 39) rfl ?_
        refine v_getN hC nl_X5_213 (k := 38 + 2 * Q) (by omega) (ch_sh (s := Q) (by omega)) rfl dX5_book_39 (q := 42) rfl ?_
        refine v_icmp_ge hC dX5_book_42 (t := 69) rfl (q := 45) rfl (fun _ => ?_) (fun h => absurd (by rw [hsz]; exact Int32.le_refl _) h)
        refine v_aload hC rfl dX5_book_69 (q := 71) rfl ?_
        refine v_getN hC nl_X5_213 (k := 38 + 2 * Q) (by omega) (ch_sh (s := Q) (by omega)) rfl dX5_book_71 (q := 74) rfl ?_
        refine hR _ _ _ _ ?_ dX5_book_74
        refine ⟨by simp only [S_book, e, ansI], q 2, upd (nu 2) 8 (nI P), va_up (vc 2) 8 (itD (nI P) (vc 0 P) z), sb, ?_⟩
        rw [up_id, trH]
        simp only [S_book, N_book, e, hzc, fnF]
      · intro j hj ih
        refine v_iload hC rfl dX5_book_35 (q := 37) rfl ?_
        refine v_aload hC rfl dX5_book_37 (q := 39) rfl ?_
        refine v_getN hC nl_X5_213 (k := 38 + 2 * Q) (by omega) (ch_sh (s := Q) (by omega)) rfl dX5_book_39 (q := 42) rfl ?_
        refine v_icmp_ge hC dX5_book_42 (t := 69) rfl (q := 45) rfl (fun h => absurd h (by rw [hsz]; exact nI_ge hj (by omega))) (fun _ => ?_)
        refine v_aload hC rfl dX5_book_45 (q := 47) rfl ?_
        refine v_iload hC rfl dX5_book_47 (q := 49) rfl ?_
        refine v_aload hC rfl dX5_book_49 (q := 51) rfl ?_
        refine v_getN hC nl_X5_98 (k := 4 + 11 * 2 + 8) (by decide) tr_o8 rfl dX5_book_51 (q := 54) rfl ?_
        refine v_i2l hC dX5_book_54 (q := 55) rfl ?_
        refine v_Vv hC lkV_X5_223 (c_X2_put (s := Q) hQ (j := j) (by omega)) rfl (by decide) (k := 38 + 2 * Q) (by omega) (ch_sh (s := Q) (by omega)) rfl rfl (Nat.le_of_ble_eq_true rfl) dX5_book_55 (q := 58) rfl ?_
        rintro _ rfl
        refine v_heap (g := trH X M q nu vc sb tp by_ sh (va_up nn Q (mixN (j + 1) (bkE (sh Q 0) (nI P) (vc 0 P)) (nn Q))) fo kp (nI P) (itD (nI P) (vc 0 P) j)) (by rw [va_up_self, up_up, ← mixL_s]; rfl) ?_
        refine v_aload hC rfl dX5_book_58 (q := 60) rfl ?_
        refine v_Vv hC lkV_X5_247 (c_X0_letDayGo_F (q := 4 + 11 * 2 + 8) (by decide) tr_o8 (okV_it (hok _ hP) _)) rfl (by decide) (k := 4 + 11 * 2 + 8) (by decide) tr_o8 rfl rfl (Nat.le_of_ble_eq_true rfl) dX5_book_60 (q := 63) rfl ?_
        rintro _ rfl
        rw [tr_set]
        refine v_iinc_6 hC (v := _ + 1) rfl rfl dX5_book_63 (q := 66) rfl ?_
        refine v_goto hC dX5_book_66 (t := 35) rfl ?_
        refine v_same rfl ?_ rfl ih
        simp [nI_1]
    refine v_aload_n hC rfl dX5_book_0 (q := 1) rfl ?_
    refine v_iload_n hC rfl dX5_book_1 (q := 2) rfl ?_
    refine v_iload_n hC rfl dX5_book_2 (q := 3) rfl ?_
    refine v_Vi hC lkV_X5_244 (c_X5_faultOfSheetFor hN h8) rfl (by decide) (k := 0) (by decide) ch_0 rfl rfl (Nat.le_of_ble_eq_true rfl) dX5_book_3 (q := 6) rfl ?_
    rintro _ _ ⟨rfl, rfl⟩
    rw [e, whyA]
    refine v_istore_3 hC rfl dX5_book_6 (q := 7) rfl ?_
    refine v_iload_n hC rfl dX5_book_7 (q := 8) rfl ?_
    refine v_if_eq hC dX5_book_8 (t := 17) rfl (q := 11) rfl (fun _ => ?_) (fun h => absurd rfl h)
    refine v_aload_n hC rfl dX5_book_17 (q := 18) rfl ?_
    refine v_get hC fl_X5_38 (k := 0) (by decide) ch_0 rfl dX5_book_18 (q := 21) rfl ?_
    refine v_iload_n hC rfl dX5_book_21 (q := 22) rfl ?_
    refine v_aald hC 3 (k := 37) (by decide) ch_37 rfl (ix4' (by omega)) (j := Q) (nI_clamp (by omega)) rfl dX5_book_22 (q := 23) rfl ?_
    refine v_astore_4 hC rfl dX5_book_23 (q := 25) rfl ?_
    rw [tr0]
    refine v_aload_n hC rfl dX5_book_25 (q := 26) rfl ?_
    refine v_iload_n hC rfl dX5_book_26 (q := 27) rfl ?_
    refine v_Vr hC lkV_X5_148 (c_X5_trialOf_T (P := P) (by omega)) rfl (by decide) (k := 0) (by decide) ch_0 rfl rfl (Nat.le_of_ble_eq_true rfl) dX5_book_27 (q := 30) rfl ?_
    rintro _ _ ⟨rfl, rfl⟩
    refine v_astore_5 hC rfl dX5_book_30 (q := 32) rfl ?_
    refine v_iconst hC (v := 0) rfl dX5_book_32 (q := 33) rfl ?_
    refine v_istore_6 hC rfl dX5_book_33 (q := 35) rfl ?_
    refine v_same ?_ rfl rfl (loop 0 (Nat.zero_le _))
    rw [mix_0, up_id, hnu _ hP]
    rfl

theorem c_X5_goesAsTold_T {l : Launch} {X : Gx} {M : MS} {q nu : Nat → Nat → Int32} {vc : Nat → Nat → Nat → Int32} {sb : Nat → Nat → Int32} {tp by_ : Nat → Int32} {sh : Nat → Nat → Int32} {nn : Nat → Nat → Int64} {fo : Nat → Int32} {kp : Int32} {k : Int32} {w : Nat → Int32} (hw : okV w) {s : Nat} (hs : s < 4) {z : Nat} (hz : sh s 1 = nI z) (h40 : z ≤ 40) : Ci l X yX5_goesAsTold cX5_goesAsTold 3 (some .boolean) (rmk 4 87) [.ref (ga X (4 + 11 * 2 + 8)), .ref (ga X (38 + 2 * s))] (trH X M q nu vc sb tp by_ sh nn fo kp (k) (w)) (fun y g => ((∀ x, x < z → nn s x = (itD k w x 1).toInt64) ∧ y = 1 ∨ ¬ (∀ x, x < z → nn s x = (itD k w x 1).toInt64) ∧ y = 0) ∧ ∃ w2, g = trH X M q nu vc sb tp by_ sh nn fo kp (k) (w2)) := by
  have h := c_X5_goesAsTold (l := l) (X := X) (f := trH X M q nu vc sb tp by_ sh nn fo kp (k) (w)) (q := 4 + 11 * 2 + 8) (by decide) (k := k) (v := w) hw (s := s) hs (ch_sh hs) (ch_nn hs) (by omega) (by omega) hz h40
  rw [one_self tr_o8] at h
  simp only [tr_set] at h
  exact h
set_option maxHeartbeats 4000000 in
set_option maxRecDepth 100000 in
theorem c_X5_read {l : Launch} {X : Gx} {M : MS} {q nu : Nat → Nat → Int32} {vc : Nat → Nat → Nat → Int32} {sb : Nat → Nat → Int32} {tp by_ : Nat → Int32} {sh : Nat → Nat → Int32} {nn : Nat → Nat → Int64} {fo : Nat → Int32} {kp : Int32} {n : Nat} (hN : q 0 1 = nI n) (h8 : n ≤ 8) (hnu : ∀ p, p < n → nu 0 p = nI p) (hok : ∀ p, p < n → okV (vc 0 p)) (hZ : szOK (fun s => sh s 1)) {s p : Int32} : Ci l X yX5_read cX5_read 8 (some .int) (rmk 5 109) [.ref (ga X 0), .int s, .int p] (ch X M q nu vc sb tp by_ sh nn fo kp) (fun z g => z = ansI (S_read (fun s => sh s 0) (fun s => sh s 1) nn (vc 0) n s p) ∧ ∃ q2 n2 v2 sb2, g = ch X M (va_up q 2 q2) (va_up nu 2 n2) (va_up vc 2 v2) sb2 tp by_ sh nn (fnF fo (S_read (fun s => sh s 0) (fun s => sh s 1) nn (vc 0) n s p)) kp) := by
  refine ct_i (own := RX5) (lv := [some (.ref (ga X 0)), some (.int s), some (.int p), none, none, none, none, none]) (by decide) rfl (Nat.le_of_ble_eq_true rfl) (Nat.le_of_ble_eq_true rfl) rfl (fun C hC hR => ?_)
  cases e : nA (fun s => sh s 0) n s p with
  | inl k =>
    have hk := nA_lt e
    have h0 := fnd_ne ⟨k, hk⟩
    refine v_aload_n hC rfl dX5_read_0 (q := 1) rfl ?_
    refine v_iload_n hC rfl dX5_read_1 (q := 2) rfl ?_
    refine v_iload_n hC rfl dX5_read_2 (q := 3) rfl ?_
    refine v_Vi hC lkV_X5_244 (c_X5_faultOfSheetFor hN h8) rfl (by decide) (k := 0) (by decide) ch_0 rfl rfl (Nat.le_of_ble_eq_true rfl) dX5_read_3 (q := 6) rfl ?_
    rintro _ _ ⟨rfl, rfl⟩
    rw [e, whyA]
    refine v_istore_3 hC rfl dX5_read_6 (q := 7) rfl ?_
    refine v_iload_n hC rfl dX5_read_7 (q := 8) rfl ?_
    refine v_if_eq hC dX5_read_8 (t := 17) rfl (q := 11) rfl (fun h => absurd h h0) (fun _ => ?_)
    refine v_aload_n hC rfl dX5_read_11 (q := 12) rfl ?_
    refine v_iload_n hC rfl dX5_read_12 (q := 13) rfl ?_
    refine v_Vi hC lkV_X5_56 (c_X5_finding hk) rfl (by decide) (k := 0) (by decide) ch_0 rfl rfl (Nat.le_of_ble_eq_true rfl) dX5_read_13 (q := 16) rfl ?_
    rintro _ _ ⟨rfl, rfl⟩
    refine hR _ _ _ _ ?_ dX5_read_16
    refine ⟨by simp only [S_read, e, ansI], q 2, nu 2, vc 2, sb, ?_⟩
    rw [up_id, up_id, up_id]
    simp only [S_read, e, fnF]
  | inr x =>
    obtain ⟨Q, P⟩ := x
    obtain ⟨hQ, rfl, hb, hP, rfl⟩ := nA_ok h8 e
    obtain ⟨z, hz, hsz⟩ := hZ Q hQ
    have hsz : sh Q 1 = nI z := hsz
    have hzc : (sh Q 1).toNatClampNeg = z := by rw [hsz]; exact nI_clamp (by omega)
    have hP8 : P < 8 := by omega
    have outer : ∀ kd, kd ≤ 6 → ∀ k1 w1, V l X (rmk 5 109) C (trH X M q nu vc sb tp by_ sh nn fo kp (k1) (w1)) 23 [some (.ref (ga X 0)), some (.int (nI Q)), some (.int (nI P)), some (.int 0), some (.int (nI (cntN (rdK (nn Q) z (nI P) (vc 0 P)) (100 * kd)))), some (.int (nI kd)), none, none] [] := by
      refine v_up 6 ?_ ?_
      · intro k1 w1
        refine v_iload hC rfl dX5_read_23 (q := 25) rfl ?_
        refine v_bipush hC (v := 6) rfl dX5_read_25 (q := 27) rfl ?_
        refine v_icmp_ge hC dX5_read_27 (t := 90) rfl (q := 30) rfl (fun _ => ?_) (fun h => absurd (by decide) h)
        refine v_iload hC rfl dX5_read_90 (q := 92) rfl ?_
        refine hR _ _ _ _ ?_ dX5_read_92
        exact ⟨by simp only [S_read, e, ansI, hzc, rdN_eq], q 2, upd (nu 2) 8 k1, va_up (vc 2) 8 w1, sb, by rw [up_id, trH]; simp only [S_read, e, fnF]⟩
      · intro kd hkd ihK
        have inner : ∀ pw, pw ≤ 100 → ∀ k1 w1, V l X (rmk 5 109) C (trH X M q nu vc sb tp by_ sh nn fo kp (k1) (w1)) 33 [some (.ref (ga X 0)), some (.int (nI Q)), some (.int (nI P)), some (.int 0), some (.int (nI (cntN (rdK (nn Q) z (nI P) (vc 0 P)) (100 * kd + pw)))), some (.int (nI kd)), some (.int (nI pw)), none] [] := by
          refine v_up 100 ?_ ?_
          · intro k1 w1
            refine v_iload hC rfl dX5_read_33 (q := 35) rfl ?_
            refine v_bipush hC (v := 99) rfl dX5_read_35 (q := 37) rfl ?_
            refine v_icmp_gt hC dX5_read_37 (t := 84) rfl (q := 40) rfl (fun _ => ?_) (fun h => absurd (by decide) h)
            refine v_iinc_5 hC (v := _ + 1) rfl rfl dX5_read_84 (q := 87) rfl ?_
            refine v_goto hC dX5_read_87 (t := 23) rfl ?_
            refine v_weak (lv' := [some (.ref (ga X 0)), some (.int (nI Q)), some (.int (nI P)), some (.int 0), some (.int (nI (cntN (rdK (nn Q) z (nI P) (vc 0 P)) (100 * kd + 100)))), some (.int (nI kd + 1)), none, none]) ⟨rfl, rfl, rfl, rfl, rfl, rfl, trivial⟩ ?_
            refine v_same rfl ?_ rfl (ihK k1 w1)
            rw [show 100 * (kd + 1) = 100 * kd + 100 by omega]
            simp [nI_1]
          · intro pw hpw ih k1 w1
            refine v_iload hC rfl dX5_read_33 (q := 35) rfl ?_
            refine v_bipush hC (v := 99) rfl dX5_read_35 (q := 37) rfl ?_
            refine v_icmp_gt hC dX5_read_37 (t := 84) rfl (q := 40) rfl (fun h => absurd h (Int32.not_lt.mpr (nI_le (b := 99) (by omega) (by decide)))) (fun _ => ?_)
            refine v_aload_n hC rfl dX5_read_40 (q := 41) rfl ?_
            refine v_iload_n hC rfl dX5_read_41 (q := 42) rfl ?_
            refine v_Vr hC lkV_X5_148 (c_X5_trialOf_T (P := P) (by omega)) rfl (by decide) (k := 0) (by decide) ch_0 rfl rfl (Nat.le_of_ble_eq_true rfl) dX5_read_42 (q := 45) rfl ?_
            rintro _ _ ⟨rfl, rfl⟩
            refine v_astore_7 hC rfl dX5_read_45 (q := 47) rfl ?_
            rw [hnu _ hP]
            refine v_aload hC rfl dX5_read_47 (q := 49) rfl ?_
            refine v_iload hC rfl dX5_read_49 (q := 51) rfl ?_
            refine v_putN hC nl_X5_91 pt_0_1 (k := 4 + 11 * 2 + 8) (by decide) tr_o8 (Nat.le_of_ble_eq_true rfl) rfl rfl (tr_f0 _) dX5_read_51 (q := 54) rfl ?_
            refine v_aload hC rfl dX5_read_54 (q := 56) rfl ?_
            refine v_iload hC rfl dX5_read_56 (q := 58) rfl ?_
            refine v_putN hC nl_X5_108 pt_0_6 (k := 4 + 11 * 2 + 8) (by decide) tr_o8 (Nat.le_of_ble_eq_true rfl) rfl rfl (tr_f5 _) dX5_read_58 (q := 61) rfl ?_
            refine v_aload hC rfl dX5_read_61 (q := 63) rfl ?_
            refine v_aload_n hC rfl dX5_read_63 (q := 64) rfl ?_
            refine v_get hC fl_X5_38 (k := 0) (by decide) ch_0 rfl dX5_read_64 (q := 67) rfl ?_
            refine v_iload_n hC rfl dX5_read_67 (q := 68) rfl ?_
            refine v_aald hC 3 (k := 37) (by decide) ch_37 rfl (ix4' (by omega)) (j := Q) (nI_clamp (by omega)) rfl dX5_read_68 (q := 69) rfl ?_
            refine v_Si hC lkS_X5_250 (c_X5_goesAsTold_T (okV_5 (okV_0 (hok _ hP) ⟨nI_0le (by omega), nI_le (b := 5) (by omega) (by decide)⟩) ⟨nI_0le (by omega), nI_le (b := 99) (by omega) (by decide)⟩) hQ hsz hz) rfl (by decide) rfl (Nat.le_of_ble_eq_true rfl) dX5_read_69 (q := 72) rfl ?_
            rintro _ _ ⟨⟨hc69, rfl⟩ | ⟨hc69, rfl⟩, ⟨w69, rfl⟩⟩
            · refine v_if_eq hC dX5_read_72 (t := 78) rfl (q := 75) rfl (fun h => absurd h (by decide)) (fun _ => ?_)
              refine v_iinc_4 hC (v := _ + 1) rfl rfl dX5_read_75 (q := 78) rfl ?_
              refine v_iinc_6 hC (v := _ + 1) rfl rfl dX5_read_78 (q := 81) rfl ?_
              refine v_goto hC dX5_read_81 (t := 33) rfl ?_
              have hbb : rdK (nn Q) z (nI P) (vc 0 P) (100 * kd + pw) = true ↔ (∀ x, x < z → nn Q x = (itD (nI P) (upd (upd (vc 0 P) 0 (nI kd)) 5 (nI pw)) x 1).toInt64) := by
                rw [rdK, decide_eq_true_eq, show (100 * kd + pw) / 100 = kd by omega, show (100 * kd + pw) % 100 = pw by omega]
              refine v_weak (lv' := [some (.ref (ga X 0)), some (.int (nI Q)), some (.int (nI P)), some (.int 0), some (.int (nI (cntN (rdK (nn Q) z (nI P) (vc 0 P)) (100 * kd + pw)) + 1)), some (.int (nI kd)), some (.int (nI pw + 1)), none]) ⟨rfl, rfl, rfl, rfl, rfl, rfl, rfl, trivial⟩ ?_
              refine v_same rfl ?_ rfl (ih (nI P) w69)
              rw [show 100 * kd + (pw + 1) = 100 * kd + pw + 1 by omega, cntN, if_pos (hbb.mpr hc69)]
              simp [nI_1]
            · refine v_if_eq hC dX5_read_72 (t := 78) rfl (q := 75) rfl (fun _ => ?_) (fun h => absurd h (by decide))
              refine v_iinc_6 hC (v := _ + 1) rfl rfl dX5_read_78 (q := 81) rfl ?_
              refine v_goto hC dX5_read_81 (t := 33) rfl ?_
              have hbb : rdK (nn Q) z (nI P) (vc 0 P) (100 * kd + pw) = true ↔ (∀ x, x < z → nn Q x = (itD (nI P) (upd (upd (vc 0 P) 0 (nI kd)) 5 (nI pw)) x 1).toInt64) := by
                rw [rdK, decide_eq_true_eq, show (100 * kd + pw) / 100 = kd by omega, show (100 * kd + pw) % 100 = pw by omega]
              refine v_weak (lv' := [some (.ref (ga X 0)), some (.int (nI Q)), some (.int (nI P)), some (.int 0), some (.int (nI (cntN (rdK (nn Q) z (nI P) (vc 0 P)) (100 * kd + pw)))), some (.int (nI kd)), some (.int (nI pw + 1)), none]) ⟨rfl, rfl, rfl, rfl, rfl, rfl, rfl, trivial⟩ ?_
              refine v_same rfl ?_ rfl (ih (nI P) w69)
              rw [show 100 * kd + (pw + 1) = 100 * kd + pw + 1 by omega, cntN, if_neg (fun y => hc69 (hbb.mp y))]
              simp [nI_1]
        intro k1 w1
        refine v_iload hC rfl dX5_read_23 (q := 25) rfl ?_
        refine v_bipush hC (v := 6) rfl dX5_read_25 (q := 27) rfl ?_
        refine v_icmp_ge hC dX5_read_27 (t := 90) rfl (q := 30) rfl (fun h => absurd h (nI_ge (b := 6) hkd (by decide))) (fun _ => ?_)
        refine v_iconst hC (v := 0) rfl dX5_read_30 (q := 31) rfl ?_
        refine v_istore_6 hC rfl dX5_read_31 (q := 33) rfl ?_
        exact inner 0 (Nat.zero_le _) k1 w1
    refine v_aload_n hC rfl dX5_read_0 (q := 1) rfl ?_
    refine v_iload_n hC rfl dX5_read_1 (q := 2) rfl ?_
    refine v_iload_n hC rfl dX5_read_2 (q := 3) rfl ?_
    refine v_Vi hC lkV_X5_244 (c_X5_faultOfSheetFor hN h8) rfl (by decide) (k := 0) (by decide) ch_0 rfl rfl (Nat.le_of_ble_eq_true rfl) dX5_read_3 (q := 6) rfl ?_
    rintro _ _ ⟨rfl, rfl⟩
    rw [e, whyA]
    refine v_istore_3 hC rfl dX5_read_6 (q := 7) rfl ?_
    refine v_iload_n hC rfl dX5_read_7 (q := 8) rfl ?_
    refine v_if_eq hC dX5_read_8 (t := 17) rfl (q := 11) rfl (fun _ => ?_) (fun h => absurd rfl h)
    refine v_iconst hC (v := 0) rfl dX5_read_17 (q := 18) rfl ?_
    refine v_istore_4 hC rfl dX5_read_18 (q := 20) rfl ?_
    refine v_iconst hC (v := 0) rfl dX5_read_20 (q := 21) rfl ?_
    refine v_istore_5 hC rfl dX5_read_21 (q := 23) rfl ?_
    refine v_same ?_ rfl rfl (outer 0 (Nat.zero_le _) (nu 2 8) (vc 2 8))
    exact tr0
