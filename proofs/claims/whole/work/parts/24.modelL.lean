def nC (bt sz : Nat → Int32) (s a t b n : Int32) : Nat ⊕ (Nat × Nat) := match pIx 4 s, pIx 4 t with
  | some Q, some U => if bt Q = 0 ∨ bt U = 0 then .inl 5 else if bt Q = bt U then (if 0 ≤ n ∧ 0 ≤ a ∧ 0 ≤ b ∧ n ≤ sz Q - a ∧ n ≤ sz U - b then .inr (Q, U) else .inl 0) else .inl 2
  | _, _ => .inl 0
theorem nC_lt {bt sz : Nat → Int32} {s a t b n : Int32} {k : Nat} (h : nC bt sz s a t b n = .inl k) : k < 7 := by
  unfold nC at h
  split at h
  · split at h
    · cases h; decide
    · split at h
      · split at h
        · cases h
        · cases h; decide
      · cases h; decide
  · cases h; decide
theorem sub_toInt {z : Nat} {x : Int32} (hz : z ≤ 40) (hx : 0 ≤ x) : (nI z - x).toInt = (z : Int) - x.toInt := by
  rw [fa_le] at hx
  have hx' : 0 ≤ x.toInt := hx
  have h2 : x.toInt < 2147483648 := by have := x.toInt_lt; omega
  rw [Int32.toInt_sub, nI_toInt (by omega)]
  exact Int.bmod_eq_of_le (by omega) (by omega)
theorem nC_ok {bt sz : Nat → Int32} (hZ : szOK sz) {s a t b n : Int32} {Q U : Nat} (h : nC bt sz s a t b n = .inr (Q, U)) : Q < 4 ∧ s = nI Q ∧ U < 4 ∧ t = nI U ∧ ∃ A B N, a = nI A ∧ b = nI B ∧ n = nI N ∧ A + N ≤ 40 ∧ B + N ≤ 40 ∧ (∃ z, z ≤ 40 ∧ sz Q = nI z ∧ A + N ≤ z) ∧ (∃ z, z ≤ 40 ∧ sz U = nI z ∧ B + N ≤ z) := by
  unfold nC at h
  split at h
  · rename_i Q1 U1 e1 e2
    obtain ⟨q1, q2⟩ := pIx_some (by decide) e1
    obtain ⟨u1, u2⟩ := pIx_some (by decide) e2
    split at h
    · cases h
    · split at h
      · split at h
        · rename_i hc
          cases h
          obtain ⟨z1, hz1, ez1⟩ := hZ Q q1
          obtain ⟨z2, hz2, ez2⟩ := hZ U u1
          obtain ⟨c1, c2, c3, c4, c5⟩ := hc
          rw [ez1, fa_le, sub_toInt hz1 c2] at c4
          rw [ez2, fa_le, sub_toInt hz2 c3] at c5
          rw [fa_le] at c1 c2 c3
          have c1' : 0 ≤ n.toInt := c1
          have c2' : 0 ≤ a.toInt := c2
          have c3' : 0 ≤ b.toInt := c3
          refine ⟨q1, q2, u1, u2, a.toInt.toNat, b.toInt.toNat, n.toInt.toNat, ?_, ?_, ?_, by omega, by omega, ⟨z1, hz1, ez1, by omega⟩, ⟨z2, hz2, ez2, by omega⟩⟩
          · exact Int32.toInt_inj.mp (by rw [nI_toInt (by omega)]; omega)
          · exact Int32.toInt_inj.mp (by rw [nI_toInt (by omega)]; omega)
          · exact Int32.toInt_inj.mp (by rw [nI_toInt (by omega)]; omega)
        · cases h
      · cases h
  · cases h
def whyC : Nat ⊕ (Nat × Nat) → Int32
  | .inl k => fnd k
  | .inr _ => 0
set_option maxHeartbeats 4000000 in
set_option maxRecDepth 100000 in
theorem c_X6_notCopied {l : Launch} {X : Gx} {S : CS} {i m : Nat → Int32} {r : Nat → Nat → Int32} {c : Nat → Int64} {s a t b n : Int32} : Ci l X yX6_notCopied cX6_notCopied 7 (some .int) (rmk 2 43) [.ref (ga X 47), .int s, .int a, .int t, .int b, .int n] (hp X S (i, m, r, c)) (fun z g => z = whyC (nC (r 5) (r 6) s a t b n) ∧ g = hp X S (i, m, r, c)) := by
  refine ct_i (own := RX6) (lv := [some (.ref (ga X 47)), some (.int s), some (.int a), some (.int t), some (.int b), some (.int n), none]) (by decide) rfl (Nat.le_of_ble_eq_true rfl) (Nat.le_of_ble_eq_true rfl) rfl (fun C hC hR => ?_)
  refine v_iload_n hC rfl dX6_notCopied_0 (q := 1) rfl ?_
  refine v_Si hC lkS_X6_202 c_X6_isSheet rfl (by decide) rfl (Nat.le_of_ble_eq_true rfl) dX6_notCopied_1 (q := 4) rfl ?_
  rintro _ _ ⟨⟨⟨Q, hQ, rfl⟩, rfl⟩ | ⟨hc1, rfl⟩, rfl⟩
  · refine v_if_eq hC dX6_notCopied_4 (t := 14) rfl (q := 7) rfl (fun h => absurd h (by decide)) (fun _ => ?_)
    refine v_iload_n hC rfl dX6_notCopied_7 (q := 8) rfl ?_
    refine v_Si hC lkS_X6_202 c_X6_isSheet rfl (by decide) rfl (Nat.le_of_ble_eq_true rfl) dX6_notCopied_8 (q := 11) rfl ?_
    rintro _ _ ⟨⟨⟨U, hU, rfl⟩, rfl⟩ | ⟨hc8, rfl⟩, rfl⟩
    · refine v_if_ne hC dX6_notCopied_11 (t := 17) rfl (q := 14) rfl (fun _ => ?_) (fun h => absurd h (by decide))
      refine v_aload_n hC rfl dX6_notCopied_17 (q := 18) rfl ?_
      refine v_get hC fl_X6_25 (k := 47) (by decide) hp_47 rfl dX6_notCopied_18 (q := 21) rfl ?_
      refine v_iload_n hC rfl dX6_notCopied_21 (q := 22) rfl ?_
      refine v_iald hC (k := 53) (by decide) hp_53 (ix4' (by omega)) (j := Q) (nI_clamp (by omega)) dX6_notCopied_22 (q := 23) rfl ?_
      refine v_if_eq hC dX6_notCopied_23 (t := 35) rfl (q := 26) rfl (fun h23 => ?_) (fun h23 => ?_)
      · refine v_ldc hC wk_X6_206 dX6_notCopied_35 (q := 37) rfl ?_
        refine hR _ _ _ _ ?_ dX6_notCopied_37
        refine ⟨?_, rfl⟩
        simp only [nC, pIx_nI hQ (by decide), pIx_nI hU (by decide), if_pos (Or.inl h23 : r 5 Q = 0 ∨ r 5 U = 0), whyC]
        rfl
      · refine v_aload_n hC rfl dX6_notCopied_26 (q := 27) rfl ?_
        refine v_get hC fl_X6_25 (k := 47) (by decide) hp_47 rfl dX6_notCopied_27 (q := 30) rfl ?_
        refine v_iload_n hC rfl dX6_notCopied_30 (q := 31) rfl ?_
        refine v_iald hC (k := 53) (by decide) hp_53 (ix4' (by omega)) (j := U) (nI_clamp (by omega)) dX6_notCopied_31 (q := 32) rfl ?_
        refine v_if_ne hC dX6_notCopied_32 (t := 38) rfl (q := 35) rfl (fun h32 => ?_) (fun h32 => ?_)
        · refine v_aload_n hC rfl dX6_notCopied_38 (q := 39) rfl ?_
          refine v_get hC fl_X6_25 (k := 47) (by decide) hp_47 rfl dX6_notCopied_39 (q := 42) rfl ?_
          refine v_iload_n hC rfl dX6_notCopied_42 (q := 43) rfl ?_
          refine v_iald hC (k := 53) (by decide) hp_53 (ix4' (by omega)) (j := Q) (nI_clamp (by omega)) dX6_notCopied_43 (q := 44) rfl ?_
          refine v_aload_n hC rfl dX6_notCopied_44 (q := 45) rfl ?_
          refine v_get hC fl_X6_25 (k := 47) (by decide) hp_47 rfl dX6_notCopied_45 (q := 48) rfl ?_
          refine v_iload_n hC rfl dX6_notCopied_48 (q := 49) rfl ?_
          refine v_iald hC (k := 53) (by decide) hp_53 (ix4' (by omega)) (j := U) (nI_clamp (by omega)) dX6_notCopied_49 (q := 50) rfl ?_
          refine v_icmp_eq hC dX6_notCopied_50 (t := 56) rfl (q := 53) rfl (fun h50 => ?_) (fun h50 => ?_)
          · refine v_iload hC rfl dX6_notCopied_56 (q := 58) rfl ?_
            refine v_if_lt hC dX6_notCopied_58 (t := 101) rfl (q := 61) rfl (fun h58 => ?_) (fun h58 => ?_)
            · refine v_iconst hC (v := 0) rfl dX6_notCopied_101 (q := 102) rfl ?_
              refine v_istore_6 hC rfl dX6_notCopied_102 (q := 104) rfl ?_
              refine v_iload hC rfl dX6_notCopied_104 (q := 106) rfl ?_
              refine v_if_eq hC dX6_notCopied_106 (t := 113) rfl (q := 109) rfl (fun _ => ?_) (fun h => absurd h (by decide))
              refine v_ldc hC wk_X6_35 dX6_notCopied_113 (q := 115) rfl ?_
              refine hR _ _ _ _ ?_ dX6_notCopied_115
              have hz : ¬ (r 5 Q = 0 ∨ r 5 U = 0) := fun z => z.elim h23 h32
              have hc : ¬ (0 ≤ n ∧ 0 ≤ a ∧ 0 ≤ b ∧ n ≤ r 6 Q - a ∧ n ≤ r 6 U - b) := fun z => Int32.not_le.mpr h58 z.1
              refine ⟨?_, rfl⟩
              simp only [nC, pIx_nI hQ (by decide), pIx_nI hU (by decide), if_neg hz, if_pos h50, if_neg hc, whyC]
              rfl
            · refine v_iload_n hC rfl dX6_notCopied_61 (q := 62) rfl ?_
              refine v_if_lt hC dX6_notCopied_62 (t := 101) rfl (q := 65) rfl (fun h62 => ?_) (fun h62 => ?_)
              · refine v_iconst hC (v := 0) rfl dX6_notCopied_101 (q := 102) rfl ?_
                refine v_istore_6 hC rfl dX6_notCopied_102 (q := 104) rfl ?_
                refine v_iload hC rfl dX6_notCopied_104 (q := 106) rfl ?_
                refine v_if_eq hC dX6_notCopied_106 (t := 113) rfl (q := 109) rfl (fun _ => ?_) (fun h => absurd h (by decide))
                refine v_ldc hC wk_X6_35 dX6_notCopied_113 (q := 115) rfl ?_
                refine hR _ _ _ _ ?_ dX6_notCopied_115
                have hz : ¬ (r 5 Q = 0 ∨ r 5 U = 0) := fun z => z.elim h23 h32
                have hc : ¬ (0 ≤ n ∧ 0 ≤ a ∧ 0 ≤ b ∧ n ≤ r 6 Q - a ∧ n ≤ r 6 U - b) := fun z => Int32.not_le.mpr h62 z.2.1
                refine ⟨?_, rfl⟩
                simp only [nC, pIx_nI hQ (by decide), pIx_nI hU (by decide), if_neg hz, if_pos h50, if_neg hc, whyC]
                rfl
              · refine v_iload hC rfl dX6_notCopied_65 (q := 67) rfl ?_
                refine v_if_lt hC dX6_notCopied_67 (t := 101) rfl (q := 70) rfl (fun h67 => ?_) (fun h67 => ?_)
                · refine v_iconst hC (v := 0) rfl dX6_notCopied_101 (q := 102) rfl ?_
                  refine v_istore_6 hC rfl dX6_notCopied_102 (q := 104) rfl ?_
                  refine v_iload hC rfl dX6_notCopied_104 (q := 106) rfl ?_
                  refine v_if_eq hC dX6_notCopied_106 (t := 113) rfl (q := 109) rfl (fun _ => ?_) (fun h => absurd h (by decide))
                  refine v_ldc hC wk_X6_35 dX6_notCopied_113 (q := 115) rfl ?_
                  refine hR _ _ _ _ ?_ dX6_notCopied_115
                  have hz : ¬ (r 5 Q = 0 ∨ r 5 U = 0) := fun z => z.elim h23 h32
                  have hc : ¬ (0 ≤ n ∧ 0 ≤ a ∧ 0 ≤ b ∧ n ≤ r 6 Q - a ∧ n ≤ r 6 U - b) := fun z => Int32.not_le.mpr h67 z.2.2.1
                  refine ⟨?_, rfl⟩
                  simp only [nC, pIx_nI hQ (by decide), pIx_nI hU (by decide), if_neg hz, if_pos h50, if_neg hc, whyC]
                  rfl
                · refine v_iload hC rfl dX6_notCopied_70 (q := 72) rfl ?_
                  refine v_aload_n hC rfl dX6_notCopied_72 (q := 73) rfl ?_
                  refine v_get hC fl_X6_28 (k := 47) (by decide) hp_47 rfl dX6_notCopied_73 (q := 76) rfl ?_
                  refine v_iload_n hC rfl dX6_notCopied_76 (q := 77) rfl ?_
                  refine v_iald hC (k := 54) (by decide) hp_54 (ix4' (by omega)) (j := Q) (nI_clamp (by omega)) dX6_notCopied_77 (q := 78) rfl ?_
                  refine v_iload_n hC rfl dX6_notCopied_78 (q := 79) rfl ?_
                  refine v_isub hC dX6_notCopied_79 (q := 80) rfl ?_
                  refine v_icmp_gt hC dX6_notCopied_80 (t := 101) rfl (q := 83) rfl (fun h80 => ?_) (fun h80 => ?_)
                  · refine v_iconst hC (v := 0) rfl dX6_notCopied_101 (q := 102) rfl ?_
                    refine v_istore_6 hC rfl dX6_notCopied_102 (q := 104) rfl ?_
                    refine v_iload hC rfl dX6_notCopied_104 (q := 106) rfl ?_
                    refine v_if_eq hC dX6_notCopied_106 (t := 113) rfl (q := 109) rfl (fun _ => ?_) (fun h => absurd h (by decide))
                    refine v_ldc hC wk_X6_35 dX6_notCopied_113 (q := 115) rfl ?_
                    refine hR _ _ _ _ ?_ dX6_notCopied_115
                    have hz : ¬ (r 5 Q = 0 ∨ r 5 U = 0) := fun z => z.elim h23 h32
                    have hc : ¬ (0 ≤ n ∧ 0 ≤ a ∧ 0 ≤ b ∧ n ≤ r 6 Q - a ∧ n ≤ r 6 U - b) := fun z => Int32.not_le.mpr h80 z.2.2.2.1
                    refine ⟨?_, rfl⟩
                    simp only [nC, pIx_nI hQ (by decide), pIx_nI hU (by decide), if_neg hz, if_pos h50, if_neg hc, whyC]
                    rfl
                  · refine v_iload hC rfl dX6_notCopied_83 (q := 85) rfl ?_
                    refine v_aload_n hC rfl dX6_notCopied_85 (q := 86) rfl ?_
                    refine v_get hC fl_X6_28 (k := 47) (by decide) hp_47 rfl dX6_notCopied_86 (q := 89) rfl ?_
                    refine v_iload_n hC rfl dX6_notCopied_89 (q := 90) rfl ?_
                    refine v_iald hC (k := 54) (by decide) hp_54 (ix4' (by omega)) (j := U) (nI_clamp (by omega)) dX6_notCopied_90 (q := 91) rfl ?_
                    refine v_iload hC rfl dX6_notCopied_91 (q := 93) rfl ?_
                    refine v_isub hC dX6_notCopied_93 (q := 94) rfl ?_
                    refine v_icmp_gt hC dX6_notCopied_94 (t := 101) rfl (q := 97) rfl (fun h94 => ?_) (fun h94 => ?_)
                    · refine v_iconst hC (v := 0) rfl dX6_notCopied_101 (q := 102) rfl ?_
                      refine v_istore_6 hC rfl dX6_notCopied_102 (q := 104) rfl ?_
                      refine v_iload hC rfl dX6_notCopied_104 (q := 106) rfl ?_
                      refine v_if_eq hC dX6_notCopied_106 (t := 113) rfl (q := 109) rfl (fun _ => ?_) (fun h => absurd h (by decide))
                      refine v_ldc hC wk_X6_35 dX6_notCopied_113 (q := 115) rfl ?_
                      refine hR _ _ _ _ ?_ dX6_notCopied_115
                      have hz : ¬ (r 5 Q = 0 ∨ r 5 U = 0) := fun z => z.elim h23 h32
                      have hc : ¬ (0 ≤ n ∧ 0 ≤ a ∧ 0 ≤ b ∧ n ≤ r 6 Q - a ∧ n ≤ r 6 U - b) := fun z => Int32.not_le.mpr h94 z.2.2.2.2
                      refine ⟨?_, rfl⟩
                      simp only [nC, pIx_nI hQ (by decide), pIx_nI hU (by decide), if_neg hz, if_pos h50, if_neg hc, whyC]
                      rfl
                    · refine v_iconst hC (v := 1) rfl dX6_notCopied_97 (q := 98) rfl ?_
                      refine v_goto hC dX6_notCopied_98 (t := 102) rfl ?_
                      refine v_istore_6 hC rfl dX6_notCopied_102 (q := 104) rfl ?_
                      refine v_iload hC rfl dX6_notCopied_104 (q := 106) rfl ?_
                      refine v_if_eq hC dX6_notCopied_106 (t := 113) rfl (q := 109) rfl (fun h => absurd h (by decide)) (fun _ => ?_)
                      refine v_iconst hC (v := 0) rfl dX6_notCopied_109 (q := 110) rfl ?_
                      refine v_goto hC dX6_notCopied_110 (t := 115) rfl ?_
                      refine hR _ _ _ _ ?_ dX6_notCopied_115
                      have hz : ¬ (r 5 Q = 0 ∨ r 5 U = 0) := fun z => z.elim h23 h32
                      have hc : 0 ≤ n ∧ 0 ≤ a ∧ 0 ≤ b ∧ n ≤ r 6 Q - a ∧ n ≤ r 6 U - b := ⟨Int32.not_lt.mp h58, Int32.not_lt.mp h62, Int32.not_lt.mp h67, Int32.not_lt.mp h80, Int32.not_lt.mp h94⟩
                      refine ⟨?_, rfl⟩
                      simp only [nC, pIx_nI hQ (by decide), pIx_nI hU (by decide), if_neg hz, if_pos h50, if_pos hc, whyC]
          · refine v_ldc hC wk_X6_87 dX6_notCopied_53 (q := 55) rfl ?_
            refine hR _ _ _ _ ?_ dX6_notCopied_55
            have hz : ¬ (r 5 Q = 0 ∨ r 5 U = 0) := fun z => z.elim h23 h32
            refine ⟨?_, rfl⟩
            simp only [nC, pIx_nI hQ (by decide), pIx_nI hU (by decide), if_neg hz, if_neg h50, whyC]
            rfl
        · refine v_ldc hC wk_X6_206 dX6_notCopied_35 (q := 37) rfl ?_
          refine hR _ _ _ _ ?_ dX6_notCopied_37
          refine ⟨?_, rfl⟩
          simp only [nC, pIx_nI hQ (by decide), pIx_nI hU (by decide), if_pos (Or.inr h32 : r 5 Q = 0 ∨ r 5 U = 0), whyC]
          rfl
    · refine v_if_ne hC dX6_notCopied_11 (t := 17) rfl (q := 14) rfl (fun h => absurd h (by decide)) (fun _ => ?_)
      refine v_ldc hC wk_X6_35 dX6_notCopied_14 (q := 16) rfl ?_
      refine hR _ _ _ _ ?_ dX6_notCopied_16
      refine ⟨?_, rfl⟩
      simp only [nC, pIx_no (by decide) hc8, whyC]
      cases pIx 4 (nI Q) <;> rfl
  · refine v_if_eq hC dX6_notCopied_4 (t := 14) rfl (q := 7) rfl (fun _ => ?_) (fun h => absurd h (by decide))
    refine v_ldc hC wk_X6_35 dX6_notCopied_14 (q := 16) rfl ?_
    refine hR _ _ _ _ ?_ dX6_notCopied_16
    refine ⟨?_, rfl⟩
    simp only [nC, pIx_no (by decide) hc1, whyC]
    rfl

def cpC (c : Nat → Int64) (sp dp n : Nat) : Nat → Int64 := fun j => if dp ≤ j ∧ j < dp + n then c (sp + (j - dp)) else c j
/-- from the upper end -/
def cpD (c : Nat → Int64) (sp dp n k : Nat) : Nat → Int64 := fun j => if dp + (n - k) ≤ j ∧ j < dp + n then c (sp + (j - dp)) else c j
theorem cpC_s {c : Nat → Int64} {sp dp k : Nat} (h : dp ≤ sp ∨ sp + k < dp ∨ dp + k ≤ sp + k) : vp_updL (cpC c sp dp k) (dp + k) (c (sp + k)) = cpC c sp dp (k + 1) := by
  funext j
  simp only [vp_updL, cpC]
  by_cases e : j = dp + k
  · rw [if_pos e, if_pos (by omega), show j - dp = k by omega]
  · rw [if_neg e]
    by_cases h2 : dp ≤ j ∧ j < dp + k
    · rw [if_pos h2, if_pos (by omega)]
    · rw [if_neg h2, if_neg (by omega)]
theorem cpC_r {c : Nat → Int64} {sp dp k : Nat} (h : ¬ (dp ≤ sp + k ∧ sp + k < dp + k)) : cpC c sp dp k (sp + k) = c (sp + k) := by
  simp only [cpC]
  rw [if_neg h]
theorem cpC_0 (c : Nat → Int64) (sp dp : Nat) : cpC c sp dp 0 = c := by
  funext j
  simp only [cpC]
  rw [if_neg (by omega)]
theorem cpD_s {c : Nat → Int64} {sp dp n k : Nat} (h : k < n) : vp_updL (cpD c sp dp n k) (dp + (n - 1 - k)) (c (sp + (n - 1 - k))) = cpD c sp dp n (k + 1) := by
  funext j
  simp only [vp_updL, cpD]
  by_cases e : j = dp + (n - 1 - k)
  · rw [if_pos e, if_pos (by omega), show j - dp = n - 1 - k by omega]
  · rw [if_neg e]
    by_cases h2 : dp + (n - k) ≤ j ∧ j < dp + n
    · rw [if_pos h2, if_pos (by omega)]
    · rw [if_neg h2, if_neg (by omega)]
theorem cpD_r {c : Nat → Int64} {sp dp n k j : Nat} (h : ¬ (dp + (n - k) ≤ j ∧ j < dp + n)) : cpD c sp dp n k j = c j := by
  simp only [cpD]
  rw [if_neg h]
theorem cpD_0 (c : Nat → Int64) (sp dp n : Nat) : cpD c sp dp n 0 = c := by
  funext j
  simp only [cpD]
  rw [if_neg (by omega)]
theorem cpD_n (c : Nat → Int64) (sp dp n : Nat) : cpD c sp dp n n = cpC c sp dp n := by
  funext j
  simp only [cpD, cpC, Nat.sub_self, Nat.add_zero]
theorem ix3 {q a k : Nat} (h1 : q < 4) (h2 : a + k < 40) : vp_in (40 * nI q + nI a + nI k) 160 ∧ (40 * nI q + nI a + nI k).toNatClampNeg = 40 * q + a + k := by
  have e : 40 * nI q + nI a + nI k = nI (40 * q + a + k) := by rw [show (40 : Int32) = nI 40 from rfl, pk_mul, nI_add, nI_add]
  rw [e]
  exact ⟨vp_in_nI (by omega) (by omega), nI_clamp (by omega)⟩
def S_copy (bt sz : Nat → Int32) (s a t b n : Int32) : An := match nC bt sz s a t b n with
  | .inl k => .inl k
  | .inr _ => .inr n
def C_copy (bt sz : Nat → Int32) (c : Nat → Int64) (s a t b n : Int32) : Nat → Int64 := match nC bt sz s a t b n with
  | .inl _ => c
  | .inr (Q, U) => cpC c (40 * Q + a.toNatClampNeg) (40 * U + b.toNatClampNeg) n.toNatClampNeg
theorem sub_s {n k : Nat} (h : k < n) : nI n - 1 - nI k = nI (n - 1 - k) := by
  rw [show (1 : Int32) = nI 1 from rfl, pk_sub (by omega), pk_sub (by omega)]
set_option maxHeartbeats 4000000 in
set_option maxRecDepth 100000 in
theorem c_X6_copy {l : Launch} {X : Gx} {S : CS} {i m : Nat → Int32} {r : Nat → Nat → Int32} {c : Nat → Int64} (hZ : szOK (r 6)) {s a t b n : Int32} : Ci l X yX6_copy cX6_copy 9 (some .int) (rmk 3 69) [.ref (ga X 47), .int s, .int a, .int t, .int b, .int n] (hp X S (i, m, r, c)) (fun z g => z = ansI (S_copy (r 5) (r 6) s a t b n) ∧ g = hp X S (i, m, fnR r (S_copy (r 5) (r 6) s a t b n), C_copy (r 5) (r 6) c s a t b n)) := by
  refine ct_i (own := RX6) (lv := [some (.ref (ga X 47)), some (.int s), some (.int a), some (.int t), some (.int b), some (.int n), none, none, none]) (by decide) rfl (Nat.le_of_ble_eq_true rfl) (Nat.le_of_ble_eq_true rfl) rfl (fun C hC hR => ?_)
  cases e : nC (r 5) (r 6) s a t b n with
  | inl k =>
    have hk := nC_lt e
    have h0 := fnd_ne ⟨k, hk⟩
    refine v_aload_n hC rfl dX6_copy_0 (q := 1) rfl ?_
    refine v_iload_n hC rfl dX6_copy_1 (q := 2) rfl ?_
    refine v_iload_n hC rfl dX6_copy_2 (q := 3) rfl ?_
    refine v_iload_n hC rfl dX6_copy_3 (q := 4) rfl ?_
    refine v_iload hC rfl dX6_copy_4 (q := 6) rfl ?_
    refine v_iload hC rfl dX6_copy_6 (q := 8) rfl ?_
    refine v_Vi hC lkV_X6_214 c_X6_notCopied rfl (by decide) (k := 47) (by decide) hp_47 rfl rfl (Nat.le_of_ble_eq_true rfl) dX6_copy_8 (q := 11) rfl ?_
    rintro _ _ ⟨rfl, rfl⟩
    rw [e, whyC]
    refine v_istore_6 hC rfl dX6_copy_11 (q := 13) rfl ?_
    refine v_iload hC rfl dX6_copy_13 (q := 15) rfl ?_
    refine v_if_eq hC dX6_copy_15 (t := 25) rfl (q := 18) rfl (fun h => absurd h h0) (fun _ => ?_)
    refine v_aload_n hC rfl dX6_copy_18 (q := 19) rfl ?_
    refine v_iload hC rfl dX6_copy_19 (q := 21) rfl ?_
    refine v_Vi hC lkV_X6_37 (c_X6_finds hk) rfl (by decide) (k := 47) (by decide) hp_47 rfl rfl (Nat.le_of_ble_eq_true rfl) dX6_copy_21 (q := 24) rfl ?_
    rintro _ _ ⟨rfl, rfl⟩
    refine hR _ _ _ _ ?_ dX6_copy_24
    exact ⟨by simp only [S_copy, e, ansI], by simp only [S_copy, C_copy, e, fnR]⟩
  | inr x =>
    obtain ⟨Q, U⟩ := x
    obtain ⟨hQ, rfl, hU, rfl, A, B, N, rfl, rfl, rfl, hA, hB, -, -⟩ := nC_ok hZ e
    have ca : (nI A).toNatClampNeg = A := nI_clamp (by omega)
    have cb : (nI B).toNatClampNeg = B := nI_clamp (by omega)
    have cn : (nI N).toNatClampNeg = N := nI_clamp (by omega)
    by_cases hAB : A < B
    · have loop : ∀ j, j ≤ N → V l X (rmk 3 69) C (hp X S (i, m, r, cpD c (40 * Q + A) (40 * U + B) N j)) 28 [some (.ref (ga X 47)), some (.int (nI Q)), some (.int (nI A)), some (.int (nI U)), some (.int (nI B)), some (.int (nI N)), some (.int 0), some (.int (nI j)), none] [] := by
        refine v_up N ?_ ?_
        · refine v_iload hC rfl dX6_copy_28 (q := 30) rfl ?_
          refine v_iload hC rfl dX6_copy_30 (q := 32) rfl ?_
          refine v_icmp_ge hC dX6_copy_32 (t := 90) rfl (q := 35) rfl (fun _ => ?_) (fun h => absurd (Int32.le_refl _) h)
          refine v_iload hC rfl dX6_copy_90 (q := 92) rfl ?_
          refine hR _ _ _ _ ?_ dX6_copy_92
          exact ⟨by simp only [S_copy, e, ansI], by simp only [S_copy, C_copy, e, fnR, ca, cb, cn, cpD_n]⟩
        · intro j hj ih
          refine v_iload hC rfl dX6_copy_28 (q := 30) rfl ?_
          refine v_iload hC rfl dX6_copy_30 (q := 32) rfl ?_
          refine v_icmp_ge hC dX6_copy_32 (t := 90) rfl (q := 35) rfl (fun h => absurd h (nI_ge hj (by omega))) (fun _ => ?_)
          refine v_iload_n hC rfl dX6_copy_35 (q := 36) rfl ?_
          refine v_iload hC rfl dX6_copy_36 (q := 38) rfl ?_
          refine v_icmp_ge hC dX6_copy_38 (t := 51) rfl (q := 41) rfl (fun h => absurd h (nI_ge hAB (by omega))) (fun _ => ?_)
          refine v_iload hC rfl dX6_copy_41 (q := 43) rfl ?_
          refine v_iconst hC (v := 1) rfl dX6_copy_43 (q := 44) rfl ?_
          refine v_isub hC dX6_copy_44 (q := 45) rfl ?_
          refine v_iload hC rfl dX6_copy_45 (q := 47) rfl ?_
          refine v_isub hC dX6_copy_47 (q := 48) rfl ?_
          refine v_goto hC dX6_copy_48 (t := 53) rfl ?_
          refine v_istore_8 hC rfl dX6_copy_53 (q := 55) rfl ?_
          rw [sub_s hj]
          refine v_aload_n hC rfl dX6_copy_55 (q := 56) rfl ?_
          refine v_get hC fl_X6_31 (k := 47) (by decide) hp_47 rfl dX6_copy_56 (q := 59) rfl ?_
          refine v_bipush hC (v := 40) rfl dX6_copy_59 (q := 61) rfl ?_
          refine v_iload_n hC rfl dX6_copy_61 (q := 62) rfl ?_
          refine v_imul hC dX6_copy_62 (q := 63) rfl ?_
          refine v_iload hC rfl dX6_copy_63 (q := 65) rfl ?_
          refine v_iadd hC dX6_copy_65 (q := 66) rfl ?_
          refine v_iload hC rfl dX6_copy_66 (q := 68) rfl ?_
          refine v_iadd hC dX6_copy_68 (q := 69) rfl ?_
          refine v_aload_n hC rfl dX6_copy_69 (q := 70) rfl ?_
          refine v_get hC fl_X6_31 (k := 47) (by decide) hp_47 rfl dX6_copy_70 (q := 73) rfl ?_
          refine v_bipush hC (v := 40) rfl dX6_copy_73 (q := 75) rfl ?_
          refine v_iload_n hC rfl dX6_copy_75 (q := 76) rfl ?_
          refine v_imul hC dX6_copy_76 (q := 77) rfl ?_
          refine v_iload_n hC rfl dX6_copy_77 (q := 78) rfl ?_
          refine v_iadd hC dX6_copy_78 (q := 79) rfl ?_
          refine v_iload hC rfl dX6_copy_79 (q := 81) rfl ?_
          refine v_iadd hC dX6_copy_81 (q := 82) rfl ?_
          refine v_lald hC (k := 55) (by decide) hp_55 (ix3 hQ (by omega)).1 (j := 40 * Q + A + (N - 1 - j)) (ix3 hQ (by omega)).2 dX6_copy_82 (q := 83) rfl ?_
          refine v_last hC (k := 55) (by decide) hp_55 (ix3 hU (by omega)).1 (j := 40 * U + B + (N - 1 - j)) (ix3 hU (by omega)).2 (hpc _) dX6_copy_83 (q := 84) rfl ?_
          refine v_iinc_7 hC (v := _ + 1) rfl rfl dX6_copy_84 (q := 87) rfl ?_
          refine v_goto hC dX6_copy_87 (t := 28) rfl ?_
          refine v_weak (lv' := [some (.ref (ga X 47)), some (.int (nI Q)), some (.int (nI A)), some (.int (nI U)), some (.int (nI B)), some (.int (nI N)), some (.int 0), some (.int (nI j + 1)), none]) ⟨rfl, rfl, rfl, rfl, rfl, rfl, rfl, rfl, trivial⟩ ?_
          refine v_same ?_ ?_ rfl ih
          · rw [← cpD_s hj, cpD_r (by omega)]
          · simp [nI_1]
      refine v_aload_n hC rfl dX6_copy_0 (q := 1) rfl ?_
      refine v_iload_n hC rfl dX6_copy_1 (q := 2) rfl ?_
      refine v_iload_n hC rfl dX6_copy_2 (q := 3) rfl ?_
      refine v_iload_n hC rfl dX6_copy_3 (q := 4) rfl ?_
      refine v_iload hC rfl dX6_copy_4 (q := 6) rfl ?_
      refine v_iload hC rfl dX6_copy_6 (q := 8) rfl ?_
      refine v_Vi hC lkV_X6_214 c_X6_notCopied rfl (by decide) (k := 47) (by decide) hp_47 rfl rfl (Nat.le_of_ble_eq_true rfl) dX6_copy_8 (q := 11) rfl ?_
      rintro _ _ ⟨rfl, rfl⟩
      rw [e, whyC]
      refine v_istore_6 hC rfl dX6_copy_11 (q := 13) rfl ?_
      refine v_iload hC rfl dX6_copy_13 (q := 15) rfl ?_
      refine v_if_eq hC dX6_copy_15 (t := 25) rfl (q := 18) rfl (fun _ => ?_) (fun h => absurd rfl h)
      refine v_iconst hC (v := 0) rfl dX6_copy_25 (q := 26) rfl ?_
      refine v_istore_7 hC rfl dX6_copy_26 (q := 28) rfl ?_
      refine v_same ?_ rfl rfl (loop 0 (Nat.zero_le _))
      rw [cpD_0]
    · have loop : ∀ j, j ≤ N → V l X (rmk 3 69) C (hp X S (i, m, r, cpC c (40 * Q + A) (40 * U + B) j)) 28 [some (.ref (ga X 47)), some (.int (nI Q)), some (.int (nI A)), some (.int (nI U)), some (.int (nI B)), some (.int (nI N)), some (.int 0), some (.int (nI j)), none] [] := by
        refine v_up N ?_ ?_
        · refine v_iload hC rfl dX6_copy_28 (q := 30) rfl ?_
          refine v_iload hC rfl dX6_copy_30 (q := 32) rfl ?_
          refine v_icmp_ge hC dX6_copy_32 (t := 90) rfl (q := 35) rfl (fun _ => ?_) (fun h => absurd (Int32.le_refl _) h)
          refine v_iload hC rfl dX6_copy_90 (q := 92) rfl ?_
          refine hR _ _ _ _ ?_ dX6_copy_92
          exact ⟨by simp only [S_copy, e, ansI], by simp only [S_copy, C_copy, e, fnR, ca, cb, cn]⟩
        · intro j hj ih
          refine v_iload hC rfl dX6_copy_28 (q := 30) rfl ?_
          refine v_iload hC rfl dX6_copy_30 (q := 32) rfl ?_
          refine v_icmp_ge hC dX6_copy_32 (t := 90) rfl (q := 35) rfl (fun h => absurd h (nI_ge hj (by omega))) (fun _ => ?_)
          refine v_iload_n hC rfl dX6_copy_35 (q := 36) rfl ?_
          refine v_iload hC rfl dX6_copy_36 (q := 38) rfl ?_
          refine v_icmp_ge hC dX6_copy_38 (t := 51) rfl (q := 41) rfl (fun _ => ?_) (fun h => absurd (nI_le (by omega) (by omega)) h)
          refine v_iload hC rfl dX6_copy_51 (q := 53) rfl ?_
          refine v_istore_8 hC rfl dX6_copy_53 (q := 55) rfl ?_
          refine v_aload_n hC rfl dX6_copy_55 (q := 56) rfl ?_
          refine v_get hC fl_X6_31 (k := 47) (by decide) hp_47 rfl dX6_copy_56 (q := 59) rfl ?_
          refine v_bipush hC (v := 40) rfl dX6_copy_59 (q := 61) rfl ?_
          refine v_iload_n hC rfl dX6_copy_61 (q := 62) rfl ?_
          refine v_imul hC dX6_copy_62 (q := 63) rfl ?_
          refine v_iload hC rfl dX6_copy_63 (q := 65) rfl ?_
          refine v_iadd hC dX6_copy_65 (q := 66) rfl ?_
          refine v_iload hC rfl dX6_copy_66 (q := 68) rfl ?_
          refine v_iadd hC dX6_copy_68 (q := 69) rfl ?_
          refine v_aload_n hC rfl dX6_copy_69 (q := 70) rfl ?_
          refine v_get hC fl_X6_31 (k := 47) (by decide) hp_47 rfl dX6_copy_70 (q := 73) rfl ?_
          refine v_bipush hC (v := 40) rfl dX6_copy_73 (q := 75) rfl ?_
          refine v_iload_n hC rfl dX6_copy_75 (q := 76) rfl ?_
          refine v_imul hC dX6_copy_76 (q := 77) rfl ?_
          refine v_iload_n hC rfl dX6_copy_77 (q := 78) rfl ?_
          refine v_iadd hC dX6_copy_78 (q := 79) rfl ?_
          refine v_iload hC rfl dX6_copy_79 (q := 81) rfl ?_
          refine v_iadd hC dX6_copy_81 (q := 82) rfl ?_
          refine v_lald hC (k := 55) (by decide) hp_55 (ix3 hQ (by omega)).1 (j := 40 * Q + A + j) (ix3 hQ (by omega)).2 dX6_copy_82 (q := 83) rfl ?_
          refine v_last hC (k := 55) (by decide) hp_55 (ix3 hU (by omega)).1 (j := 40 * U + B + j) (ix3 hU (by omega)).2 (hpc _) dX6_copy_83 (q := 84) rfl ?_
          refine v_iinc_7 hC (v := _ + 1) rfl rfl dX6_copy_84 (q := 87) rfl ?_
          refine v_goto hC dX6_copy_87 (t := 28) rfl ?_
          refine v_weak (lv' := [some (.ref (ga X 47)), some (.int (nI Q)), some (.int (nI A)), some (.int (nI U)), some (.int (nI B)), some (.int (nI N)), some (.int 0), some (.int (nI j + 1)), none]) ⟨rfl, rfl, rfl, rfl, rfl, rfl, rfl, rfl, trivial⟩ ?_
          refine v_same ?_ ?_ rfl ih
          · rw [← cpC_s (by omega), cpC_r (by omega)]
          · simp [nI_1]
      refine v_aload_n hC rfl dX6_copy_0 (q := 1) rfl ?_
      refine v_iload_n hC rfl dX6_copy_1 (q := 2) rfl ?_
      refine v_iload_n hC rfl dX6_copy_2 (q := 3) rfl ?_
      refine v_iload_n hC rfl dX6_copy_3 (q := 4) rfl ?_
      refine v_iload hC rfl dX6_copy_4 (q := 6) rfl ?_
      refine v_iload hC rfl dX6_copy_6 (q := 8) rfl ?_
      refine v_Vi hC lkV_X6_214 c_X6_notCopied rfl (by decide) (k := 47) (by decide) hp_47 rfl rfl (Nat.le_of_ble_eq_true rfl) dX6_copy_8 (q := 11) rfl ?_
      rintro _ _ ⟨rfl, rfl⟩
      rw [e, whyC]
      refine v_istore_6 hC rfl dX6_copy_11 (q := 13) rfl ?_
      refine v_iload hC rfl dX6_copy_13 (q := 15) rfl ?_
      refine v_if_eq hC dX6_copy_15 (t := 25) rfl (q := 18) rfl (fun _ => ?_) (fun h => absurd rfl h)
      refine v_iconst hC (v := 0) rfl dX6_copy_25 (q := 26) rfl ?_
      refine v_istore_7 hC rfl dX6_copy_26 (q := 28) rfl ?_
      refine v_same ?_ rfl rfl (loop 0 (Nat.zero_le _))
      rw [cpC_0]

def withN (g : Nat → Nat → Int32) (w : Nat) (v : Int32) : Nat → Nat
  | 0 => 0
  | p + 1 => if g p w = v then withN g w v p + 2 ^ p else withN g w v p
theorem withN_lt {g : Nat → Nat → Int32} {w : Nat} {v : Int32} : ∀ k, withN g w v k < 2 ^ k
  | 0 => by rw [withN]; decide
  | k + 1 => by
    have := withN_lt (g := g) (w := w) (v := v) k
    rw [withN, Nat.pow_succ]
    split <;> omega
theorem or_bit : ∀ p : Fin 8, ∀ x : Fin 128, x.val < 2 ^ p.val → nI x.val ||| bitI p.val = nI (x.val + 2 ^ p.val) ∧ pcN (x.val + 2 ^ p.val) = pcN x.val + 1 := by decide +kernel
theorem pw7 : ∀ p : Fin 8, 2 ^ p.val ≤ 128 := by decide
theorem withF_N {g : Nat → Nat → Int32} {w : Nat} {v : Int32} : ∀ k, k ≤ 8 → withF g w v k = nI (withN g w v k) ∧ pcN (withN g w v k) = cntN (fun p => decide (g p w = v)) k
  | 0, _ => ⟨rfl, by rw [withN, cntN]; decide⟩
  | k + 1, h => by
    obtain ⟨h1, h2⟩ := withF_N (g := g) (w := w) (v := v) k (by omega)
    have h3 := withN_lt (g := g) (w := w) (v := v) k
    have h4 := pw7 ⟨k, by omega⟩
    dsimp only at h4
    have h5 := or_bit ⟨k, by omega⟩ ⟨withN g w v k, by omega⟩ h3
    dsimp only at h5
    rw [withF, withN, cntN, h1]
    by_cases e : g k w = v
    · simp only [e, if_true, decide_true]
      exact ⟨h5.1, h5.2.trans (by rw [h2])⟩
    · simp only [e, if_false, decide_false]
      exact ⟨by simp, h2⟩
def S_count (n : Nat) (g : Nat → Nat → Int32) (tp w : Int32) : An := if w = 0 then .inr (nI n) else if w = 1 then .inr tp else if w = 2 then .inr (nI (cntN (fun p => decide (g p 4 = -1)) n)) else if w = 3 then .inr (sumF g 6 n) else .inl 0
def staF (fo : Nat → Int32) (w : Int32) : Nat → Int32
  | 0 => 0
  | k + 1 => staF fo w k + (if w < 0 ∨ w = nI k then fo k else 0)
theorem staF_ex : ∃ f : (Nat → Int32) → Int32 → Int32, ∀ fo w, f fo w = staF fo w 7 := ⟨fun fo w => staF fo w 7, fun _ _ => rfl⟩
noncomputable def staS : (Nat → Int32) → Int32 → Int32 := Classical.choose staF_ex
theorem staS_eq (fo : Nat → Int32) (w : Int32) : staS fo w = staF fo w 7 := Classical.choose_spec staF_ex fo w
noncomputable def S_status (fo : Nat → Int32) (w : Int32) : An := if -1 ≤ w ∧ w ≤ 6 then .inr (staS fo w) else .inl 0
theorem ix7 : ∀ j : Fin 7, ¬ (nI j.val < 0 ∨ 7 ≤ (nI j.val).toNatClampNeg) := by decide +kernel
set_option maxHeartbeats 4000000 in
set_option maxRecDepth 100000 in
theorem c_X6_count {l : Launch} {X : Gx} {S : CS} {i m : Nat → Int32} {r : Nat → Nat → Int32} {c : Nat → Int64} {n : Nat} (hN : m 1 = nI n) (h8 : n ≤ 8) {w : Int32} : Ci l X yX6_count cX6_count 2 (some .int) (rmk 2 46) [.ref (ga X 47), .int w] (hp X S (i, m, r, c)) (fun z g => z = ansI (S_count n (pv m) (i 1) w) ∧ g = hp X S (i, m, fnR r (S_count n (pv m) (i 1) w), c)) := by
  refine ct_i (own := RX6) (lv := [some (.ref (ga X 47)), some (.int w)]) (by decide) rfl (Nat.le_of_ble_eq_true rfl) (Nat.le_of_ble_eq_true rfl) rfl (fun C hC hR => ?_)
  refine v_iload_n hC rfl dX6_count_0 (q := 1) rfl ?_
  refine v_em 0 (fun hs1_0 => ?_) (fun hs1_0 => ?_)
  · refine v_tin hC dX6_count_1 (by decide) (by decide) rfl (t := 32) rfl ?_
    refine v_aload_n hC rfl dX6_count_32 (q := 33) rfl ?_
    refine v_get hC fl_X6_9 (k := 47) (by decide) hp_47 rfl dX6_count_33 (q := 36) rfl ?_
    refine v_iconst hC (v := 1) rfl dX6_count_36 (q := 37) rfl ?_
    refine v_iald hC (k := 48) (by decide) hp_48 (vp_l (by decide)) (j := 1) rfl dX6_count_37 (q := 38) rfl ?_
    refine hR _ _ _ _ ?_ dX6_count_38
    refine ⟨?_, ?_⟩
    · simp [S_count, ansI, hN, (withF_N (g := pv m) (w := 4) (v := -1) n h8).2, *]
    · simp [S_count, fnR, *]
  refine v_em 1 (fun hs1_1 => ?_) (fun hs1_1 => ?_)
  · refine v_tin hC dX6_count_1 (by decide) (by decide) rfl (t := 39) rfl ?_
    refine v_aload_n hC rfl dX6_count_39 (q := 40) rfl ?_
    refine v_get hC fl_X6_147 (k := 47) (by decide) hp_47 rfl dX6_count_40 (q := 43) rfl ?_
    refine hR _ _ _ _ ?_ dX6_count_43
    refine ⟨?_, ?_⟩
    · simp [S_count, ansI, hN, (withF_N (g := pv m) (w := 4) (v := -1) n h8).2, *]
    · simp [S_count, fnR, *]
  refine v_em 2 (fun hs1_2 => ?_) (fun hs1_2 => ?_)
  · refine v_tin hC dX6_count_1 (by decide) (by decide) rfl (t := 44) rfl ?_
    refine v_aload_n hC rfl dX6_count_44 (q := 45) rfl ?_
    refine v_iconst hC (v := 4) rfl dX6_count_45 (q := 46) rfl ?_
    refine v_iconst hC (v := (-1)) rfl dX6_count_46 (q := 47) rfl ?_
    refine v_Vi hC lkV_X6_112 (c_X6_thoseWith hN h8 (w := 4) (by decide)) rfl (by decide) (k := 47) (by decide) hp_47 rfl rfl (Nat.le_of_ble_eq_true rfl) dX6_count_47 (q := 50) rfl ?_
    rintro _ _ ⟨rfl, rfl⟩
    rw [(withF_N n h8).1]
    refine v_Si hC lkS_X6_141 (c_X6_bits (Nat.lt_of_lt_of_le (withN_lt n) (pw8 h8))) rfl (by decide) rfl (Nat.le_of_ble_eq_true rfl) dX6_count_50 (q := 53) rfl ?_
    rintro _ _ ⟨rfl, rfl⟩
    refine hR _ _ _ _ ?_ dX6_count_53
    refine ⟨?_, ?_⟩
    · simp [S_count, ansI, hN, (withF_N (g := pv m) (w := 4) (v := -1) n h8).2, *]
    · simp [S_count, fnR, *]
  refine v_em 3 (fun hs1_3 => ?_) (fun hs1_3 => ?_)
  · refine v_tin hC dX6_count_1 (by decide) (by decide) rfl (t := 54) rfl ?_
    refine v_aload_n hC rfl dX6_count_54 (q := 55) rfl ?_
    refine v_bipush hC (v := 6) rfl dX6_count_55 (q := 57) rfl ?_
    refine v_Vi hC lkV_X6_109 (c_X6_sums hN h8 (w := 6) (by decide)) rfl (by decide) (k := 47) (by decide) hp_47 rfl rfl (Nat.le_of_ble_eq_true rfl) dX6_count_57 (q := 60) rfl ?_
    rintro _ _ ⟨rfl, rfl⟩
    refine hR _ _ _ _ ?_ dX6_count_60
    refine ⟨?_, ?_⟩
    · simp [S_count, ansI, hN, (withF_N (g := pv m) (w := 4) (v := -1) n h8).2, *]
    · simp [S_count, fnR, *]
  refine v_tout hC dX6_count_1 (sw_out_0_3 hs1_0 hs1_1 hs1_2 hs1_3) (t := 61) rfl ?_
  refine v_aload_n hC rfl dX6_count_61 (q := 62) rfl ?_
  refine v_ldc hC wk_X6_35 dX6_count_62 (q := 64) rfl ?_
  refine v_Vi hC lkV_X6_37 (c_X6_finds (n := 0) (by decide)) rfl (by decide) (k := 47) (by decide) hp_47 rfl rfl (Nat.le_of_ble_eq_true rfl) dX6_count_64 (q := 67) rfl ?_
  rintro _ _ ⟨rfl, rfl⟩
  refine hR _ _ _ _ ?_ dX6_count_67
  refine ⟨?_, ?_⟩
  · simp [S_count, ansI, hN, (withF_N (g := pv m) (w := 4) (v := -1) n h8).2, *]
  · simp [S_count, fnR, *]

set_option maxHeartbeats 4000000 in
set_option maxRecDepth 100000 in
theorem c_X6_status {l : Launch} {X : Gx} {S : CS} {i m : Nat → Int32} {r : Nat → Nat → Int32} {c : Nat → Int64} {w : Int32} : Ci l X yX6_status cX6_status 4 (some .int) (rmk 1 23) [.ref (ga X 47), .int w] (hp X S (i, m, r, c)) (fun z g => z = ansI (S_status (r 3) w) ∧ g = hp X S (i, m, fnR r (S_status (r 3) w), c)) := by
  refine ct_i (own := RX6) (lv := [some (.ref (ga X 47)), some (.int w), none, none]) (by decide) rfl (Nat.le_of_ble_eq_true rfl) (Nat.le_of_ble_eq_true rfl) rfl (fun C hC hR => ?_)
  have main : (-1 ≤ w ∧ w ≤ 6) → V l X (rmk 1 23) C (hp X S (i, m, r, c)) 22 [some (.ref (ga X 47)), some (.int w), some (.int (staF (r 3) w 0)), some (.int (nI 0))] [] := by
    intro hw
    have loop : ∀ j, j ≤ 7 → V l X (rmk 1 23) C (hp X S (i, m, r, c)) 22 [some (.ref (ga X 47)), some (.int w), some (.int (staF (r 3) w j)), some (.int (nI j))] [] := by
      refine v_up 7 ?_ ?_
      · refine v_iload_n hC rfl dX6_status_22 (q := 23) rfl ?_
        refine v_bipush hC (v := 7) rfl dX6_status_23 (q := 25) rfl ?_
        refine v_icmp_ge hC dX6_status_25 (t := 56) rfl (q := 28) rfl (fun _ => ?_) (fun h => absurd (by decide) h)
        refine v_iload_n hC rfl dX6_status_56 (q := 57) rfl ?_
        refine hR _ _ _ _ ?_ dX6_status_57
        exact ⟨by simp only [S_status, if_pos hw, ansI, staS_eq], by simp only [S_status, if_pos hw, fnR]⟩
      · intro j hj ih
        refine v_iload_n hC rfl dX6_status_22 (q := 23) rfl ?_
        refine v_bipush hC (v := 7) rfl dX6_status_23 (q := 25) rfl ?_
        refine v_icmp_ge hC dX6_status_25 (t := 56) rfl (q := 28) rfl (fun h => absurd h (nI_ge (b := 7) hj (by decide))) (fun _ => ?_)
        refine v_iload_n hC rfl dX6_status_28 (q := 29) rfl ?_
        refine v_iload_n hC rfl dX6_status_29 (q := 30) rfl ?_
        refine v_if_lt hC dX6_status_30 (t := 38) rfl (q := 33) rfl (fun h30 => ?_) (fun h30 => ?_)
        · refine v_aload_n hC rfl dX6_status_38 (q := 39) rfl ?_
          refine v_get hC fl_X6_19 (k := 47) (by decide) hp_47 rfl dX6_status_39 (q := 42) rfl ?_
          refine v_iload_n hC rfl dX6_status_42 (q := 43) rfl ?_
          refine v_iald hC (k := 51) (by decide) hp_51 (vp_l (ix7 ⟨j, hj⟩)) (nI_clamp (by omega)) dX6_status_43 (q := 44) rfl ?_
          refine v_goto hC dX6_status_44 (t := 48) rfl ?_
          refine v_iadd hC dX6_status_48 (q := 49) rfl ?_
          refine v_istore_2 hC rfl dX6_status_49 (q := 50) rfl ?_
          refine v_iinc_3 hC (v := _ + 1) rfl rfl dX6_status_50 (q := 53) rfl ?_
          refine v_goto hC dX6_status_53 (t := 22) rfl ?_
          refine v_same rfl ?_ rfl ih
          rw [staF, if_pos (Or.inl h30)]
          simp [nI_1]
        · refine v_iload_n hC rfl dX6_status_33 (q := 34) rfl ?_
          refine v_iload_n hC rfl dX6_status_34 (q := 35) rfl ?_
          refine v_icmp_ne hC dX6_status_35 (t := 47) rfl (q := 38) rfl (fun h35 => ?_) (fun h35 => ?_)
          · refine v_iconst hC (v := 0) rfl dX6_status_47 (q := 48) rfl ?_
            refine v_iadd hC dX6_status_48 (q := 49) rfl ?_
            refine v_istore_2 hC rfl dX6_status_49 (q := 50) rfl ?_
            refine v_iinc_3 hC (v := _ + 1) rfl rfl dX6_status_50 (q := 53) rfl ?_
            refine v_goto hC dX6_status_53 (t := 22) rfl ?_
            refine v_same rfl ?_ rfl ih
            rw [staF, if_neg (fun z => z.elim h30 h35)]
            simp [nI_1]
          · refine v_aload_n hC rfl dX6_status_38 (q := 39) rfl ?_
            refine v_get hC fl_X6_19 (k := 47) (by decide) hp_47 rfl dX6_status_39 (q := 42) rfl ?_
            refine v_iload_n hC rfl dX6_status_42 (q := 43) rfl ?_
            refine v_iald hC (k := 51) (by decide) hp_51 (vp_l (ix7 ⟨j, hj⟩)) (nI_clamp (by omega)) dX6_status_43 (q := 44) rfl ?_
            refine v_goto hC dX6_status_44 (t := 48) rfl ?_
            refine v_iadd hC dX6_status_48 (q := 49) rfl ?_
            refine v_istore_2 hC rfl dX6_status_49 (q := 50) rfl ?_
            refine v_iinc_3 hC (v := _ + 1) rfl rfl dX6_status_50 (q := 53) rfl ?_
            refine v_goto hC dX6_status_53 (t := 22) rfl ?_
            refine v_same rfl ?_ rfl ih
            rw [staF, if_pos (Or.inr h35)]
            simp [nI_1]
    exact loop 0 (Nat.zero_le _)
  refine v_iload_n hC rfl dX6_status_0 (q := 1) rfl ?_
  refine v_i2l hC dX6_status_1 (q := 2) rfl ?_
  refine v_iconst hC (v := (-1)) rfl dX6_status_2 (q := 3) rfl ?_
  refine v_bipush hC (v := 6) rfl dX6_status_3 (q := 5) rfl ?_
  refine v_Si hC lkS_X6_41 c_X6_in rfl (by decide) rfl (Nat.le_of_ble_eq_true rfl) dX6_status_5 (q := 8) rfl ?_
  rintro _ _ ⟨⟨hc5, rfl⟩ | ⟨hc5, rfl⟩, rfl⟩
  · refine v_if_ne hC dX6_status_8 (t := 18) rfl (q := 11) rfl (fun _ => ?_) (fun h => absurd h (by decide))
    refine v_iconst hC (v := 0) rfl dX6_status_18 (q := 19) rfl ?_
    refine v_istore_2 hC rfl dX6_status_19 (q := 20) rfl ?_
    refine v_iconst hC (v := 0) rfl dX6_status_20 (q := 21) rfl ?_
    refine v_istore_3 hC rfl dX6_status_21 (q := 22) rfl ?_
    exact main hc5
  · refine v_if_ne hC dX6_status_8 (t := 18) rfl (q := 11) rfl (fun h => absurd h (by decide)) (fun _ => ?_)
    refine v_aload_n hC rfl dX6_status_11 (q := 12) rfl ?_
    refine v_ldc hC wk_X6_35 dX6_status_12 (q := 14) rfl ?_
    refine v_Vi hC lkV_X6_37 (c_X6_finds (n := 0) (by decide)) rfl (by decide) (k := 47) (by decide) hp_47 rfl rfl (Nat.le_of_ble_eq_true rfl) dX6_status_14 (q := 17) rfl ?_
    rintro _ _ ⟨rfl, rfl⟩
    refine hR _ _ _ _ ?_ dX6_status_17
    exact ⟨by simp only [S_status, if_neg hc5, ansI], by simp only [S_status, if_neg hc5, fnR]⟩
