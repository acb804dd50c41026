theorem T_feed_le {T : Nat} {n : Int32} (h : T ≤ 120) : T_feed T n ≤ 120 := by
  unfold T_feed
  split
  · rename_i h1
    split
    · rename_i h2
      obtain ⟨N, hN1, hN4, rfl⟩ := w_of' (a := 1) (N := 4) (by decide) (by decide) h1.1 h1.2
      rw [nI_add] at h2
      rw [nI_clamp (by omega)]
      exact (nI_leI (b := 120) (by omega) (by decide)).mp h2
    · exact h
  · exact h
set_option maxHeartbeats 4000000 in
set_option maxRecDepth 100000 in
theorem law_feed {l : Launch} {X : Gx} {C : Cx} {b L j : Nat} {xs : Nat → Int32} (hC : cOK X room_1 C cL_law RL) (hX : cX X C b L xs) (hL : L ≤ 3072) (hj : 6 * (j + 1) ≤ L) (nx : NX l X C b j 1241) {i m : Nat → Int32} {r : Nat → Nat → Int32} {c : Nat → Int64} {q nu : Nat → Nat → Int32} {vc : Nat → Nat → Nat → Int32} {sb : Nat → Nat → Int32} {tp by_ : Nat → Int32} {sh : Nat → Nat → Int32} {nn : Nat → Nat → Int64} {fo : Nat → Int32} {kp : Int32} (hRel : Rel i m r c q nu vc tp by_ sh nn fo kp) : V l X room_1 C (ch X (i, m, r, c) q nu vc sb tp by_ sh nn fo kp) 828 [some (.ref b), some (.ref (ga X 0)), some (.ref (ga X 47)), some (.int (nI (6 * j)))] [] := by
  have hRel0 := hRel
  obtain ⟨n, T, hQ, hKp, ⟨ht, hi, hT⟩, rfl, rfl, rfl, hb0, hb1, hZ, hnn⟩ := hRel
  have hQ1 := hQ
  obtain ⟨h8, hm1, hN, hd, hnu, hvv, hok⟩ := hQ1
  refine v_aload_n hC rfl dL_law_828 (q := 829) rfl ?_
  refine v_aload_n hC rfl dL_law_829 (q := 830) rfl ?_
  refine v_iload_n hC rfl dL_law_830 (q := 831) rfl ?_
  refine v_iconst hC (v := 1) rfl dL_law_831 (q := 832) rfl ?_
  refine v_iadd hC dL_law_832 (q := 833) rfl ?_
  refine v_sld hC hX (k := 6 * j + 1) (by omega) hL (n6 j 1) dL_law_833 (q := 834) rfl ?_
  refine v_aload_n hC rfl dL_law_834 (q := 835) rfl ?_
  refine v_iload_n hC rfl dL_law_835 (q := 836) rfl ?_
  refine v_iconst hC (v := 2) rfl dL_law_836 (q := 837) rfl ?_
  refine v_iadd hC dL_law_837 (q := 838) rfl ?_
  refine v_sld hC hX (k := 6 * j + 2) (by omega) hL (n6 j 2) dL_law_838 (q := 839) rfl ?_
  refine v_heap (g := ch X ((i, m, r, c)) q nu vc sb (iv [nI T, tp 1, tp 2, tp 3]) (r 4) sh nn (r 3) (i 0)) (by rw [← ht]; rfl) ?_
  refine v_Vi hC lkV_L_105 (c_X5_feed hT) rfl (by decide) (k := 0) (by decide) ch_0 rfl rfl (Nat.le_of_ble_eq_true rfl) dL_law_839 (q := 842) rfl ?_
  rintro _ _ ⟨rfl, rfl⟩
  refine v_aload_n hC rfl dL_law_842 (q := 843) rfl ?_
  refine v_aload_n hC rfl dL_law_843 (q := 844) rfl ?_
  refine v_iload_n hC rfl dL_law_844 (q := 845) rfl ?_
  refine v_iconst hC (v := 1) rfl dL_law_845 (q := 846) rfl ?_
  refine v_iadd hC dL_law_846 (q := 847) rfl ?_
  refine v_sld hC hX (k := 6 * j + 1) (by omega) hL (n6 j 1) dL_law_847 (q := 848) rfl ?_
  refine v_aload_n hC rfl dL_law_848 (q := 849) rfl ?_
  refine v_iload_n hC rfl dL_law_849 (q := 850) rfl ?_
  refine v_iconst hC (v := 2) rfl dL_law_850 (q := 851) rfl ?_
  refine v_iadd hC dL_law_851 (q := 852) rfl ?_
  refine v_sld hC hX (k := 6 * j + 2) (by omega) hL (n6 j 2) dL_law_852 (q := 853) rfl ?_
  refine v_heap (g := ch X ((iv [i 0, nI T, i 2, i 3, i 4, i 5, i 6], m, r, c)) q nu vc sb (iv [nI (T_feed T (xs (6 * j + 2))), tp 1, tp 2, tp 3]) (R_feed (r 4) T (xs (6 * j + 1)) (xs (6 * j + 2))) sh nn (fnF (r 3) (S_feed T (xs (6 * j + 2)))) (i 0)) (by rw [← hi]; rfl) ?_
  refine v_Vi hC lkV_L_108 (c_X6_feed hT) rfl (by decide) (k := 47) (by decide) hp_47 rfl rfl (Nat.le_of_ble_eq_true rfl) dL_law_853 (q := 856) rfl ?_
  rintro _ _ ⟨rfl, rfl⟩
  refine v_icmp_eq hC dL_law_856 (t := 1241) rfl (q := 859) rfl (fun _ => ?_) (fun h => absurd (rfl) h)
  exact nx _ _ _ _ _ _ _ _ _ _ _ _ _ _ (rel_fn (x := S_feed T (xs (6 * j + 2))) (r := va_up r 4 (R_feed (r 4) T (xs (6 * j + 1)) (xs (6 * j + 2)))) ⟨n, T_feed T (xs (6 * j + 2)), hQ, hKp, ⟨rfl, rfl, T_feed_le hT⟩, rfl, rfl, rfl, hb0, hb1, hZ, hnn⟩)

set_option maxHeartbeats 4000000 in
set_option maxRecDepth 100000 in
theorem law_wipe {l : Launch} {X : Gx} {C : Cx} {b L j : Nat} {xs : Nat → Int32} (hC : cOK X room_1 C cL_law RL) (hX : cX X C b L xs) (hL : L ≤ 3072) (hj : 6 * (j + 1) ≤ L) (nx : NX l X C b j 1241) {i m : Nat → Int32} {r : Nat → Nat → Int32} {c : Nat → Int64} {q nu : Nat → Nat → Int32} {vc : Nat → Nat → Nat → Int32} {sb : Nat → Nat → Int32} {tp by_ : Nat → Int32} {sh : Nat → Nat → Int32} {nn : Nat → Nat → Int64} {fo : Nat → Int32} {kp : Int32} (hRel : Rel i m r c q nu vc tp by_ sh nn fo kp) : V l X room_1 C (ch X (i, m, r, c) q nu vc sb tp by_ sh nn fo kp) 861 [some (.ref b), some (.ref (ga X 0)), some (.ref (ga X 47)), some (.int (nI (6 * j)))] [] := by
  have hRel0 := hRel
  obtain ⟨n, T, hQ, hKp, ⟨ht, hi, hT⟩, rfl, rfl, rfl, hb0, hb1, hZ, hnn⟩ := hRel
  have hQ1 := hQ
  obtain ⟨h8, hm1, hN, hd, hnu, hvv, hok⟩ := hQ1
  refine v_aload_n hC rfl dL_law_861 (q := 862) rfl ?_
  refine v_heap (g := ch X ((i, m, r, c)) q nu vc sb (iv [tp 0, tp 1, tp 2, tp 3]) (r 4) sh nn (r 3) (i 0)) rfl ?_
  refine v_Vi hC lkV_L_109 c_X5_wipe rfl (by decide) (k := 0) (by decide) ch_0 rfl rfl (Nat.le_of_ble_eq_true rfl) dL_law_862 (q := 865) rfl ?_
  rintro _ _ ⟨rfl, rfl⟩
  refine v_aload_n hC rfl dL_law_865 (q := 866) rfl ?_
  refine v_heap (g := ch X ((iv [i 0, i 1, i 2, i 3, i 4, i 5, i 6], m, r, c)) q nu vc sb (iv [0, tp 1, tp 2, tp 3]) (r 4) sh nn (r 3) (i 0)) rfl ?_
  refine v_Vi hC lkV_L_112 c_X6_wipe rfl (by decide) (k := 47) (by decide) hp_47 rfl rfl (Nat.le_of_ble_eq_true rfl) dL_law_866 (q := 869) rfl ?_
  rintro _ _ ⟨rfl, rfl⟩
  refine v_icmp_eq hC dL_law_869 (t := 1241) rfl (q := 872) rfl (fun _ => ?_) (fun h => absurd (ht.trans hi.symm) h)
  exact nx _ _ _ _ _ _ _ _ _ _ _ _ _ _ ⟨n, 0, hQ, hKp, ⟨rfl, rfl, by decide⟩, rfl, rfl, rfl, hb0, hb1, hZ, hnn⟩

set_option maxHeartbeats 4000000 in
set_option maxRecDepth 100000 in
theorem law_quay {l : Launch} {X : Gx} {C : Cx} {b L j : Nat} {xs : Nat → Int32} (hC : cOK X room_1 C cL_law RL) (hX : cX X C b L xs) (hL : L ≤ 3072) (hj : 6 * (j + 1) ≤ L) (nx : NX l X C b j 1241) {i m : Nat → Int32} {r : Nat → Nat → Int32} {c : Nat → Int64} {q nu : Nat → Nat → Int32} {vc : Nat → Nat → Nat → Int32} {sb : Nat → Nat → Int32} {tp by_ : Nat → Int32} {sh : Nat → Nat → Int32} {nn : Nat → Nat → Int64} {fo : Nat → Int32} {kp : Int32} (hRel : Rel i m r c q nu vc tp by_ sh nn fo kp) : V l X room_1 C (ch X (i, m, r, c) q nu vc sb tp by_ sh nn fo kp) 874 [some (.ref b), some (.ref (ga X 0)), some (.ref (ga X 47)), some (.int (nI (6 * j)))] [] := by
  have hRel0 := hRel
  obtain ⟨n, T, hQ, hKp, ⟨ht, hi, hT⟩, rfl, rfl, rfl, hb0, hb1, hZ, hnn⟩ := hRel
  have hQ1 := hQ
  obtain ⟨h8, hm1, hN, hd, hnu, hvv, hok⟩ := hQ1
  refine v_aload_n hC rfl dL_law_874 (q := 875) rfl ?_
  refine v_heap (g := ch X ((i, m, r, c)) q nu vc sb (iv [nI T, tp 1, tp 2, tp 3]) (r 4) sh nn (r 3) (i 0)) (by rw [← ht]; rfl) ?_
  refine v_Vi hC lkV_L_113 (c_X5_quay hT hQ) rfl (by decide) (k := 0) (by decide) ch_0 rfl rfl (Nat.le_of_ble_eq_true rfl) dL_law_875 (q := 878) rfl ?_
  rintro _ _ ⟨rfl, n9, t1, t2, t3, q9, nu9, vc9, hr9, hq1, hq2, hq3, rfl⟩
  refine v_aload_n hC rfl dL_law_878 (q := 879) rfl ?_
  refine v_Vi hC lkV_L_116 (c_X6_quay hm1 h8 hi hT) rfl (by decide) (k := 47) (by decide) hp_47 rfl rfl (Nat.le_of_ble_eq_true rfl) dL_law_879 (q := 882) rfl ?_
  rintro _ _ ⟨rfl, i2, W, hi20, hi21, rfl⟩
  refine v_icmp_eq hC dL_law_882 (t := 1241) rfl (q := 885) rfl (fun _ => ?_) (fun h => absurd (rfl) h)
  exact nx _ _ _ _ _ _ _ _ _ _ _ _ _ _ ⟨n9, 0, hr9, by rw [hi20, hq1, hq2, hq3]; exact hKp, ⟨rfl, hi21, by decide⟩, hi20.symm, rfl, rfl, hb0, hb1, hZ, hnn⟩

set_option maxHeartbeats 4000000 in
set_option maxRecDepth 100000 in
theorem law_sheet {l : Launch} {X : Gx} {C : Cx} {b L j : Nat} {xs : Nat → Int32} (hC : cOK X room_1 C cL_law RL) (hX : cX X C b L xs) (hL : L ≤ 3072) (hj : 6 * (j + 1) ≤ L) (nx : NX l X C b j 1241) {i m : Nat → Int32} {r : Nat → Nat → Int32} {c : Nat → Int64} {q nu : Nat → Nat → Int32} {vc : Nat → Nat → Nat → Int32} {sb : Nat → Nat → Int32} {tp by_ : Nat → Int32} {sh : Nat → Nat → Int32} {nn : Nat → Nat → Int64} {fo : Nat → Int32} {kp : Int32} (hRel : Rel i m r c q nu vc tp by_ sh nn fo kp) : V l X room_1 C (ch X (i, m, r, c) q nu vc sb tp by_ sh nn fo kp) 887 [some (.ref b), some (.ref (ga X 0)), some (.ref (ga X 47)), some (.int (nI (6 * j)))] [] := by
  have hRel0 := hRel
  obtain ⟨n, T, hQ, hKp, ⟨ht, hi, hT⟩, rfl, rfl, rfl, hb0, hb1, hZ, hnn⟩ := hRel
  have hQ1 := hQ
  obtain ⟨h8, hm1, hN, hd, hnu, hvv, hok⟩ := hQ1
  cases hg : gSh (xs (6 * j + 1)) (xs (6 * j + 2)) (xs (6 * j + 3)) with
  | none =>
    refine v_aload_n hC rfl dL_law_887 (q := 888) rfl ?_
    refine v_aload_n hC rfl dL_law_888 (q := 889) rfl ?_
    refine v_iload_n hC rfl dL_law_889 (q := 890) rfl ?_
    refine v_iconst hC (v := 1) rfl dL_law_890 (q := 891) rfl ?_
    refine v_iadd hC dL_law_891 (q := 892) rfl ?_
    refine v_sld hC hX (k := 6 * j + 1) (by omega) hL (n6 j 1) dL_law_892 (q := 893) rfl ?_
    refine v_aload_n hC rfl dL_law_893 (q := 894) rfl ?_
    refine v_iload_n hC rfl dL_law_894 (q := 895) rfl ?_
    refine v_iconst hC (v := 2) rfl dL_law_895 (q := 896) rfl ?_
    refine v_iadd hC dL_law_896 (q := 897) rfl ?_
    refine v_sld hC hX (k := 6 * j + 2) (by omega) hL (n6 j 2) dL_law_897 (q := 898) rfl ?_
    refine v_aload_n hC rfl dL_law_898 (q := 899) rfl ?_
    refine v_iload_n hC rfl dL_law_899 (q := 900) rfl ?_
    refine v_iconst hC (v := 3) rfl dL_law_900 (q := 901) rfl ?_
    refine v_iadd hC dL_law_901 (q := 902) rfl ?_
    refine v_sld hC hX (k := 6 * j + 3) (by omega) hL (n6 j 3) dL_law_902 (q := 903) rfl ?_
    refine v_Vi hC lkV_L_117 c_X5_sheet rfl (by decide) (k := 0) (by decide) ch_0 rfl rfl (Nat.le_of_ble_eq_true rfl) dL_law_903 (q := 906) rfl ?_
    rintro _ _ ⟨rfl, rfl⟩
    simp only [hg]
    refine v_aload_n hC rfl dL_law_906 (q := 907) rfl ?_
    refine v_aload_n hC rfl dL_law_907 (q := 908) rfl ?_
    refine v_iload_n hC rfl dL_law_908 (q := 909) rfl ?_
    refine v_iconst hC (v := 1) rfl dL_law_909 (q := 910) rfl ?_
    refine v_iadd hC dL_law_910 (q := 911) rfl ?_
    refine v_sld hC hX (k := 6 * j + 1) (by omega) hL (n6 j 1) dL_law_911 (q := 912) rfl ?_
    refine v_aload_n hC rfl dL_law_912 (q := 913) rfl ?_
    refine v_iload_n hC rfl dL_law_913 (q := 914) rfl ?_
    refine v_iconst hC (v := 2) rfl dL_law_914 (q := 915) rfl ?_
    refine v_iadd hC dL_law_915 (q := 916) rfl ?_
    refine v_sld hC hX (k := 6 * j + 2) (by omega) hL (n6 j 2) dL_law_916 (q := 917) rfl ?_
    refine v_aload_n hC rfl dL_law_917 (q := 918) rfl ?_
    refine v_iload_n hC rfl dL_law_918 (q := 919) rfl ?_
    refine v_iconst hC (v := 3) rfl dL_law_919 (q := 920) rfl ?_
    refine v_iadd hC dL_law_920 (q := 921) rfl ?_
    refine v_sld hC hX (k := 6 * j + 3) (by omega) hL (n6 j 3) dL_law_921 (q := 922) rfl ?_
    refine v_Vi hC lkV_L_120 c_X6_sheet rfl (by decide) (k := 47) (by decide) hp_47 rfl rfl (Nat.le_of_ble_eq_true rfl) dL_law_922 (q := 925) rfl ?_
    rintro _ _ ⟨rfl, rfl⟩
    simp only [hg]
    refine v_icmp_eq hC dL_law_925 (t := 1241) rfl (q := 928) rfl (fun _ => ?_) (fun h => absurd (rfl) h)
    exact nx _ _ _ _ _ _ _ _ _ _ _ _ _ _ (rel_fn hRel0)
  | some Q =>
    obtain ⟨-, hQ4, z, hz, hn⟩ := sh_fo hg
    refine v_aload_n hC rfl dL_law_887 (q := 888) rfl ?_
    refine v_aload_n hC rfl dL_law_888 (q := 889) rfl ?_
    refine v_iload_n hC rfl dL_law_889 (q := 890) rfl ?_
    refine v_iconst hC (v := 1) rfl dL_law_890 (q := 891) rfl ?_
    refine v_iadd hC dL_law_891 (q := 892) rfl ?_
    refine v_sld hC hX (k := 6 * j + 1) (by omega) hL (n6 j 1) dL_law_892 (q := 893) rfl ?_
    refine v_aload_n hC rfl dL_law_893 (q := 894) rfl ?_
    refine v_iload_n hC rfl dL_law_894 (q := 895) rfl ?_
    refine v_iconst hC (v := 2) rfl dL_law_895 (q := 896) rfl ?_
    refine v_iadd hC dL_law_896 (q := 897) rfl ?_
    refine v_sld hC hX (k := 6 * j + 2) (by omega) hL (n6 j 2) dL_law_897 (q := 898) rfl ?_
    refine v_aload_n hC rfl dL_law_898 (q := 899) rfl ?_
    refine v_iload_n hC rfl dL_law_899 (q := 900) rfl ?_
    refine v_iconst hC (v := 3) rfl dL_law_900 (q := 901) rfl ?_
    refine v_iadd hC dL_law_901 (q := 902) rfl ?_
    refine v_sld hC hX (k := 6 * j + 3) (by omega) hL (n6 j 3) dL_law_902 (q := 903) rfl ?_
    refine v_Vi hC lkV_L_117 c_X5_sheet rfl (by decide) (k := 0) (by decide) ch_0 rfl rfl (Nat.le_of_ble_eq_true rfl) dL_law_903 (q := 906) rfl ?_
    rintro _ _ ⟨rfl, rfl⟩
    simp only [hg]
    refine v_aload_n hC rfl dL_law_906 (q := 907) rfl ?_
    refine v_aload_n hC rfl dL_law_907 (q := 908) rfl ?_
    refine v_iload_n hC rfl dL_law_908 (q := 909) rfl ?_
    refine v_iconst hC (v := 1) rfl dL_law_909 (q := 910) rfl ?_
    refine v_iadd hC dL_law_910 (q := 911) rfl ?_
    refine v_sld hC hX (k := 6 * j + 1) (by omega) hL (n6 j 1) dL_law_911 (q := 912) rfl ?_
    refine v_aload_n hC rfl dL_law_912 (q := 913) rfl ?_
    refine v_iload_n hC rfl dL_law_913 (q := 914) rfl ?_
    refine v_iconst hC (v := 2) rfl dL_law_914 (q := 915) rfl ?_
    refine v_iadd hC dL_law_915 (q := 916) rfl ?_
    refine v_sld hC hX (k := 6 * j + 2) (by omega) hL (n6 j 2) dL_law_916 (q := 917) rfl ?_
    refine v_aload_n hC rfl dL_law_917 (q := 918) rfl ?_
    refine v_iload_n hC rfl dL_law_918 (q := 919) rfl ?_
    refine v_iconst hC (v := 3) rfl dL_law_919 (q := 920) rfl ?_
    refine v_iadd hC dL_law_920 (q := 921) rfl ?_
    refine v_sld hC hX (k := 6 * j + 3) (by omega) hL (n6 j 3) dL_law_921 (q := 922) rfl ?_
    refine v_Vi hC lkV_L_120 c_X6_sheet rfl (by decide) (k := 47) (by decide) hp_47 rfl rfl (Nat.le_of_ble_eq_true rfl) dL_law_922 (q := 925) rfl ?_
    rintro _ _ ⟨rfl, rfl⟩
    simp only [hg]
    refine v_icmp_eq hC dL_law_925 (t := 1241) rfl (q := 928) rfl (fun _ => ?_) (fun h => absurd (rfl) h)
    exact nx _ _ _ _ _ _ _ _ _ _ _ _ _ _ ⟨n, T, hQ, hKp, ⟨ht, hi, hT⟩, rfl, rfl, rfl, sh_up0 hb0, sh_up1 hb1, sz_up hZ hz hn, nn_sheet hnn⟩

set_option maxHeartbeats 4000000 in
set_option maxRecDepth 100000 in
theorem law_write {l : Launch} {X : Gx} {C : Cx} {b L j : Nat} {xs : Nat → Int32} (hC : cOK X room_1 C cL_law RL) (hX : cX X C b L xs) (hL : L ≤ 3072) (hj : 6 * (j + 1) ≤ L) (nx : NX l X C b j 1241) {i m : Nat → Int32} {r : Nat → Nat → Int32} {c : Nat → Int64} {q nu : Nat → Nat → Int32} {vc : Nat → Nat → Nat → Int32} {sb : Nat → Nat → Int32} {tp by_ : Nat → Int32} {sh : Nat → Nat → Int32} {nn : Nat → Nat → Int64} {fo : Nat → Int32} {kp : Int32} (hRel : Rel i m r c q nu vc tp by_ sh nn fo kp) : V l X room_1 C (ch X (i, m, r, c) q nu vc sb tp by_ sh nn fo kp) 930 [some (.ref b), some (.ref (ga X 0)), some (.ref (ga X 47)), some (.int (nI (6 * j)))] [] := by
  have hRel0 := hRel
  obtain ⟨n, T, hQ, hKp, ⟨ht, hi, hT⟩, rfl, rfl, rfl, hb0, hb1, hZ, hnn⟩ := hRel
  have hQ1 := hQ
  obtain ⟨h8, hm1, hN, hd, hnu, hvv, hok⟩ := hQ1
  cases hg : gWr (r 5) (r 6) (xs (6 * j + 1)) (xs (6 * j + 2)) with
  | none =>
    refine v_aload_n hC rfl dL_law_930 (q := 931) rfl ?_
    refine v_aload_n hC rfl dL_law_931 (q := 932) rfl ?_
    refine v_iload_n hC rfl dL_law_932 (q := 933) rfl ?_
    refine v_iconst hC (v := 1) rfl dL_law_933 (q := 934) rfl ?_
    refine v_iadd hC dL_law_934 (q := 935) rfl ?_
    refine v_sld hC hX (k := 6 * j + 1) (by omega) hL (n6 j 1) dL_law_935 (q := 936) rfl ?_
    refine v_aload_n hC rfl dL_law_936 (q := 937) rfl ?_
    refine v_iload_n hC rfl dL_law_937 (q := 938) rfl ?_
    refine v_iconst hC (v := 2) rfl dL_law_938 (q := 939) rfl ?_
    refine v_iadd hC dL_law_939 (q := 940) rfl ?_
    refine v_sld hC hX (k := 6 * j + 2) (by omega) hL (n6 j 2) dL_law_940 (q := 941) rfl ?_
    refine v_aload_n hC rfl dL_law_941 (q := 942) rfl ?_
    refine v_iload_n hC rfl dL_law_942 (q := 943) rfl ?_
    refine v_iconst hC (v := 3) rfl dL_law_943 (q := 944) rfl ?_
    refine v_iadd hC dL_law_944 (q := 945) rfl ?_
    refine v_sld hC hX (k := 6 * j + 3) (by omega) hL (n6 j 3) dL_law_945 (q := 946) rfl ?_
    refine v_i2l hC dL_law_946 (q := 947) rfl ?_
    refine v_bipush hC (v := 32) rfl dL_law_947 (q := 949) rfl ?_
    refine v_lshl hC dL_law_949 (q := 950) rfl ?_
    refine v_aload_n hC rfl dL_law_950 (q := 951) rfl ?_
    refine v_iload_n hC rfl dL_law_951 (q := 952) rfl ?_
    refine v_iconst hC (v := 4) rfl dL_law_952 (q := 953) rfl ?_
    refine v_iadd hC dL_law_953 (q := 954) rfl ?_
    refine v_sld hC hX (k := 6 * j + 4) (by omega) hL (n6 j 4) dL_law_954 (q := 955) rfl ?_
    refine v_i2l hC dL_law_955 (q := 956) rfl ?_
    refine v_ldc2 hC wl_L_121 dL_law_956 (q := 959) rfl ?_
    refine v_land hC dL_law_959 (q := 960) rfl ?_
    refine v_lor hC dL_law_960 (q := 961) rfl ?_
    refine v_Vl hC lkV_L_123 (c_X5_write (by rw [hb1]; exact hZ)) rfl (by decide) (k := 0) (by decide) ch_0 rfl rfl (Nat.le_of_ble_eq_true rfl) dL_law_961 (q := 964) rfl ?_
    rintro _ _ ⟨rfl, rfl⟩
    rw [hb0, hb1, cg_write (cq' := (fun q k => c (40 * q + k))) hZ hnn]
    simp only [hg]
    refine v_aload_n hC rfl dL_law_964 (q := 965) rfl ?_
    refine v_aload_n hC rfl dL_law_965 (q := 966) rfl ?_
    refine v_iload_n hC rfl dL_law_966 (q := 967) rfl ?_
    refine v_iconst hC (v := 1) rfl dL_law_967 (q := 968) rfl ?_
    refine v_iadd hC dL_law_968 (q := 969) rfl ?_
    refine v_sld hC hX (k := 6 * j + 1) (by omega) hL (n6 j 1) dL_law_969 (q := 970) rfl ?_
    refine v_aload_n hC rfl dL_law_970 (q := 971) rfl ?_
    refine v_iload_n hC rfl dL_law_971 (q := 972) rfl ?_
    refine v_iconst hC (v := 2) rfl dL_law_972 (q := 973) rfl ?_
    refine v_iadd hC dL_law_973 (q := 974) rfl ?_
    refine v_sld hC hX (k := 6 * j + 2) (by omega) hL (n6 j 2) dL_law_974 (q := 975) rfl ?_
    refine v_aload_n hC rfl dL_law_975 (q := 976) rfl ?_
    refine v_iload_n hC rfl dL_law_976 (q := 977) rfl ?_
    refine v_iconst hC (v := 3) rfl dL_law_977 (q := 978) rfl ?_
    refine v_iadd hC dL_law_978 (q := 979) rfl ?_
    refine v_sld hC hX (k := 6 * j + 3) (by omega) hL (n6 j 3) dL_law_979 (q := 980) rfl ?_
    refine v_i2l hC dL_law_980 (q := 981) rfl ?_
    refine v_bipush hC (v := 32) rfl dL_law_981 (q := 983) rfl ?_
    refine v_lshl hC dL_law_983 (q := 984) rfl ?_
    refine v_aload_n hC rfl dL_law_984 (q := 985) rfl ?_
    refine v_iload_n hC rfl dL_law_985 (q := 986) rfl ?_
    refine v_iconst hC (v := 4) rfl dL_law_986 (q := 987) rfl ?_
    refine v_iadd hC dL_law_987 (q := 988) rfl ?_
    refine v_sld hC hX (k := 6 * j + 4) (by omega) hL (n6 j 4) dL_law_988 (q := 989) rfl ?_
    refine v_i2l hC dL_law_989 (q := 990) rfl ?_
    refine v_ldc2 hC wl_L_121 dL_law_990 (q := 993) rfl ?_
    refine v_land hC dL_law_993 (q := 994) rfl ?_
    refine v_lor hC dL_law_994 (q := 995) rfl ?_
    refine v_Vl hC lkV_L_127 (c_X6_write hZ) rfl (by decide) (k := 47) (by decide) hp_47 rfl rfl (Nat.le_of_ble_eq_true rfl) dL_law_995 (q := 998) rfl ?_
    rintro _ _ ⟨rfl, rfl⟩
    simp only [hg]
    refine v_lcmp hC dL_law_998 (q := 999) rfl ?_
    refine v_if_eq hC dL_law_999 (t := 1241) rfl (q := 1002) rfl (fun _ => ?_) (fun h => absurd ((lg_cmp_eq _ _).mpr rfl) h)
    exact nx _ _ _ _ _ _ _ _ _ _ _ _ _ _ (rel_fnL hRel0)
  | some y =>
    obtain ⟨Q, K⟩ := y
    obtain ⟨hQ4, hK⟩ := wr_ix hZ hg
    have hbq : sh Q 0 = r 5 Q := congrFun hb0 Q
    refine v_aload_n hC rfl dL_law_930 (q := 931) rfl ?_
    refine v_aload_n hC rfl dL_law_931 (q := 932) rfl ?_
    refine v_iload_n hC rfl dL_law_932 (q := 933) rfl ?_
    refine v_iconst hC (v := 1) rfl dL_law_933 (q := 934) rfl ?_
    refine v_iadd hC dL_law_934 (q := 935) rfl ?_
    refine v_sld hC hX (k := 6 * j + 1) (by omega) hL (n6 j 1) dL_law_935 (q := 936) rfl ?_
    refine v_aload_n hC rfl dL_law_936 (q := 937) rfl ?_
    refine v_iload_n hC rfl dL_law_937 (q := 938) rfl ?_
    refine v_iconst hC (v := 2) rfl dL_law_938 (q := 939) rfl ?_
    refine v_iadd hC dL_law_939 (q := 940) rfl ?_
    refine v_sld hC hX (k := 6 * j + 2) (by omega) hL (n6 j 2) dL_law_940 (q := 941) rfl ?_
    refine v_aload_n hC rfl dL_law_941 (q := 942) rfl ?_
    refine v_iload_n hC rfl dL_law_942 (q := 943) rfl ?_
    refine v_iconst hC (v := 3) rfl dL_law_943 (q := 944) rfl ?_
    refine v_iadd hC dL_law_944 (q := 945) rfl ?_
    refine v_sld hC hX (k := 6 * j + 3) (by omega) hL (n6 j 3) dL_law_945 (q := 946) rfl ?_
    refine v_i2l hC dL_law_946 (q := 947) rfl ?_
    refine v_bipush hC (v := 32) rfl dL_law_947 (q := 949) rfl ?_
    refine v_lshl hC dL_law_949 (q := 950) rfl ?_
    refine v_aload_n hC rfl dL_law_950 (q := 951) rfl ?_
    refine v_iload_n hC rfl dL_law_951 (q := 952) rfl ?_
    refine v_iconst hC (v := 4) rfl dL_law_952 (q := 953) rfl ?_
    refine v_iadd hC dL_law_953 (q := 954) rfl ?_
    refine v_sld hC hX (k := 6 * j + 4) (by omega) hL (n6 j 4) dL_law_954 (q := 955) rfl ?_
    refine v_i2l hC dL_law_955 (q := 956) rfl ?_
    refine v_ldc2 hC wl_L_121 dL_law_956 (q := 959) rfl ?_
    refine v_land hC dL_law_959 (q := 960) rfl ?_
    refine v_lor hC dL_law_960 (q := 961) rfl ?_
    refine v_Vl hC lkV_L_123 (c_X5_write (by rw [hb1]; exact hZ)) rfl (by decide) (k := 0) (by decide) ch_0 rfl rfl (Nat.le_of_ble_eq_true rfl) dL_law_961 (q := 964) rfl ?_
    rintro _ _ ⟨rfl, rfl⟩
    rw [hb0, hb1, cg_write (cq' := (fun q k => c (40 * q + k))) hZ hnn]
    simp only [hg]
    rw [hbq]
    refine v_aload_n hC rfl dL_law_964 (q := 965) rfl ?_
    refine v_aload_n hC rfl dL_law_965 (q := 966) rfl ?_
    refine v_iload_n hC rfl dL_law_966 (q := 967) rfl ?_
    refine v_iconst hC (v := 1) rfl dL_law_967 (q := 968) rfl ?_
    refine v_iadd hC dL_law_968 (q := 969) rfl ?_
    refine v_sld hC hX (k := 6 * j + 1) (by omega) hL (n6 j 1) dL_law_969 (q := 970) rfl ?_
    refine v_aload_n hC rfl dL_law_970 (q := 971) rfl ?_
    refine v_iload_n hC rfl dL_law_971 (q := 972) rfl ?_
    refine v_iconst hC (v := 2) rfl dL_law_972 (q := 973) rfl ?_
    refine v_iadd hC dL_law_973 (q := 974) rfl ?_
    refine v_sld hC hX (k := 6 * j + 2) (by omega) hL (n6 j 2) dL_law_974 (q := 975) rfl ?_
    refine v_aload_n hC rfl dL_law_975 (q := 976) rfl ?_
    refine v_iload_n hC rfl dL_law_976 (q := 977) rfl ?_
    refine v_iconst hC (v := 3) rfl dL_law_977 (q := 978) rfl ?_
    refine v_iadd hC dL_law_978 (q := 979) rfl ?_
    refine v_sld hC hX (k := 6 * j + 3) (by omega) hL (n6 j 3) dL_law_979 (q := 980) rfl ?_
    refine v_i2l hC dL_law_980 (q := 981) rfl ?_
    refine v_bipush hC (v := 32) rfl dL_law_981 (q := 983) rfl ?_
    refine v_lshl hC dL_law_983 (q := 984) rfl ?_
    refine v_aload_n hC rfl dL_law_984 (q := 985) rfl ?_
    refine v_iload_n hC rfl dL_law_985 (q := 986) rfl ?_
    refine v_iconst hC (v := 4) rfl dL_law_986 (q := 987) rfl ?_
    refine v_iadd hC dL_law_987 (q := 988) rfl ?_
    refine v_sld hC hX (k := 6 * j + 4) (by omega) hL (n6 j 4) dL_law_988 (q := 989) rfl ?_
    refine v_i2l hC dL_law_989 (q := 990) rfl ?_
    refine v_ldc2 hC wl_L_121 dL_law_990 (q := 993) rfl ?_
    refine v_land hC dL_law_993 (q := 994) rfl ?_
    refine v_lor hC dL_law_994 (q := 995) rfl ?_
    refine v_Vl hC lkV_L_127 (c_X6_write hZ) rfl (by decide) (k := 47) (by decide) hp_47 rfl rfl (Nat.le_of_ble_eq_true rfl) dL_law_995 (q := 998) rfl ?_
    rintro _ _ ⟨rfl, rfl⟩
    simp only [hg]
    refine v_lcmp hC dL_law_998 (q := 999) rfl ?_
    refine v_if_eq hC dL_law_999 (t := 1241) rfl (q := 1002) rfl (fun _ => ?_) (fun h => absurd ((lg_cmp_eq _ _).mpr rfl) h)
    exact nx _ _ _ _ _ _ _ _ _ _ _ _ _ _ ⟨n, T, hQ, hKp, ⟨ht, hi, hT⟩, rfl, rfl, rfl, hb0, hb1, hZ, nn_write hnn hQ4 hK⟩

set_option maxHeartbeats 4000000 in
set_option maxRecDepth 100000 in
theorem law_copy {l : Launch} {X : Gx} {C : Cx} {b L j : Nat} {xs : Nat → Int32} (hC : cOK X room_1 C cL_law RL) (hX : cX X C b L xs) (hL : L ≤ 3072) (hj : 6 * (j + 1) ≤ L) (nx : NX l X C b j 1241) {i m : Nat → Int32} {r : Nat → Nat → Int32} {c : Nat → Int64} {q nu : Nat → Nat → Int32} {vc : Nat → Nat → Nat → Int32} {sb : Nat → Nat → Int32} {tp by_ : Nat → Int32} {sh : Nat → Nat → Int32} {nn : Nat → Nat → Int64} {fo : Nat → Int32} {kp : Int32} (hRel : Rel i m r c q nu vc tp by_ sh nn fo kp) : V l X room_1 C (ch X (i, m, r, c) q nu vc sb tp by_ sh nn fo kp) 1004 [some (.ref b), some (.ref (ga X 0)), some (.ref (ga X 47)), some (.int (nI (6 * j)))] [] := by
  have hRel0 := hRel
  obtain ⟨n, T, hQ, hKp, ⟨ht, hi, hT⟩, rfl, rfl, rfl, hb0, hb1, hZ, hnn⟩ := hRel
  have hQ1 := hQ
  obtain ⟨h8, hm1, hN, hd, hnu, hvv, hok⟩ := hQ1
  refine v_aload_n hC rfl dL_law_1004 (q := 1005) rfl ?_
  refine v_aload_n hC rfl dL_law_1005 (q := 1006) rfl ?_
  refine v_iload_n hC rfl dL_law_1006 (q := 1007) rfl ?_
  refine v_iconst hC (v := 1) rfl dL_law_1007 (q := 1008) rfl ?_
  refine v_iadd hC dL_law_1008 (q := 1009) rfl ?_
  refine v_sld hC hX (k := 6 * j + 1) (by omega) hL (n6 j 1) dL_law_1009 (q := 1010) rfl ?_
  refine v_aload_n hC rfl dL_law_1010 (q := 1011) rfl ?_
  refine v_iload_n hC rfl dL_law_1011 (q := 1012) rfl ?_
  refine v_iconst hC (v := 2) rfl dL_law_1012 (q := 1013) rfl ?_
  refine v_iadd hC dL_law_1013 (q := 1014) rfl ?_
  refine v_sld hC hX (k := 6 * j + 2) (by omega) hL (n6 j 2) dL_law_1014 (q := 1015) rfl ?_
  refine v_aload_n hC rfl dL_law_1015 (q := 1016) rfl ?_
  refine v_iload_n hC rfl dL_law_1016 (q := 1017) rfl ?_
  refine v_iconst hC (v := 3) rfl dL_law_1017 (q := 1018) rfl ?_
  refine v_iadd hC dL_law_1018 (q := 1019) rfl ?_
  refine v_sld hC hX (k := 6 * j + 3) (by omega) hL (n6 j 3) dL_law_1019 (q := 1020) rfl ?_
  refine v_aload_n hC rfl dL_law_1020 (q := 1021) rfl ?_
  refine v_iload_n hC rfl dL_law_1021 (q := 1022) rfl ?_
  refine v_iconst hC (v := 4) rfl dL_law_1022 (q := 1023) rfl ?_
  refine v_iadd hC dL_law_1023 (q := 1024) rfl ?_
  refine v_sld hC hX (k := 6 * j + 4) (by omega) hL (n6 j 4) dL_law_1024 (q := 1025) rfl ?_
  refine v_aload_n hC rfl dL_law_1025 (q := 1026) rfl ?_
  refine v_iload_n hC rfl dL_law_1026 (q := 1027) rfl ?_
  refine v_iconst hC (v := 5) rfl dL_law_1027 (q := 1028) rfl ?_
  refine v_iadd hC dL_law_1028 (q := 1029) rfl ?_
  refine v_sld hC hX (k := 6 * j + 5) (by omega) hL (n6 j 5) dL_law_1029 (q := 1030) rfl ?_
  refine v_Vi hC lkV_L_128 (c_X5_copy (by rw [hb1]; exact hZ)) rfl (by decide) (k := 0) (by decide) ch_0 rfl rfl (Nat.le_of_ble_eq_true rfl) dL_law_1030 (q := 1033) rfl ?_
  rintro _ _ ⟨rfl, rfl⟩
  rw [hb0, hb1]
  refine v_aload_n hC rfl dL_law_1033 (q := 1034) rfl ?_
  refine v_aload_n hC rfl dL_law_1034 (q := 1035) rfl ?_
  refine v_iload_n hC rfl dL_law_1035 (q := 1036) rfl ?_
  refine v_iconst hC (v := 1) rfl dL_law_1036 (q := 1037) rfl ?_
  refine v_iadd hC dL_law_1037 (q := 1038) rfl ?_
  refine v_sld hC hX (k := 6 * j + 1) (by omega) hL (n6 j 1) dL_law_1038 (q := 1039) rfl ?_
  refine v_aload_n hC rfl dL_law_1039 (q := 1040) rfl ?_
  refine v_iload_n hC rfl dL_law_1040 (q := 1041) rfl ?_
  refine v_iconst hC (v := 2) rfl dL_law_1041 (q := 1042) rfl ?_
  refine v_iadd hC dL_law_1042 (q := 1043) rfl ?_
  refine v_sld hC hX (k := 6 * j + 2) (by omega) hL (n6 j 2) dL_law_1043 (q := 1044) rfl ?_
  refine v_aload_n hC rfl dL_law_1044 (q := 1045) rfl ?_
  refine v_iload_n hC rfl dL_law_1045 (q := 1046) rfl ?_
  refine v_iconst hC (v := 3) rfl dL_law_1046 (q := 1047) rfl ?_
  refine v_iadd hC dL_law_1047 (q := 1048) rfl ?_
  refine v_sld hC hX (k := 6 * j + 3) (by omega) hL (n6 j 3) dL_law_1048 (q := 1049) rfl ?_
  refine v_aload_n hC rfl dL_law_1049 (q := 1050) rfl ?_
  refine v_iload_n hC rfl dL_law_1050 (q := 1051) rfl ?_
  refine v_iconst hC (v := 4) rfl dL_law_1051 (q := 1052) rfl ?_
  refine v_iadd hC dL_law_1052 (q := 1053) rfl ?_
  refine v_sld hC hX (k := 6 * j + 4) (by omega) hL (n6 j 4) dL_law_1053 (q := 1054) rfl ?_
  refine v_aload_n hC rfl dL_law_1054 (q := 1055) rfl ?_
  refine v_iload_n hC rfl dL_law_1055 (q := 1056) rfl ?_
  refine v_iconst hC (v := 5) rfl dL_law_1056 (q := 1057) rfl ?_
  refine v_iadd hC dL_law_1057 (q := 1058) rfl ?_
  refine v_sld hC hX (k := 6 * j + 5) (by omega) hL (n6 j 5) dL_law_1058 (q := 1059) rfl ?_
  refine v_Vi hC lkV_L_132 (c_X6_copy hZ) rfl (by decide) (k := 47) (by decide) hp_47 rfl rfl (Nat.le_of_ble_eq_true rfl) dL_law_1059 (q := 1062) rfl ?_
  rintro _ _ ⟨rfl, rfl⟩
  refine v_icmp_eq hC dL_law_1062 (t := 1241) rfl (q := 1065) rfl (fun _ => ?_) (fun h => absurd (rfl) h)
  exact nx _ _ _ _ _ _ _ _ _ _ _ _ _ _ (rel_fn ⟨n, T, hQ, hKp, ⟨ht, hi, hT⟩, rfl, rfl, rfl, hb0, hb1, hZ, nn_copy hZ hnn⟩)

set_option maxHeartbeats 4000000 in
set_option maxRecDepth 100000 in
theorem law_lays {l : Launch} {X : Gx} {C : Cx} {b L j : Nat} {xs : Nat → Int32} (hC : cOK X room_1 C cL_law RL) (hX : cX X C b L xs) (hL : L ≤ 3072) (hj : 6 * (j + 1) ≤ L) (nx : NX l X C b j 1241) {i m : Nat → Int32} {r : Nat → Nat → Int32} {c : Nat → Int64} {q nu : Nat → Nat → Int32} {vc : Nat → Nat → Nat → Int32} {sb : Nat → Nat → Int32} {tp by_ : Nat → Int32} {sh : Nat → Nat → Int32} {nn : Nat → Nat → Int64} {fo : Nat → Int32} {kp : Int32} (hRel : Rel i m r c q nu vc tp by_ sh nn fo kp) : V l X room_1 C (ch X (i, m, r, c) q nu vc sb tp by_ sh nn fo kp) 1067 [some (.ref b), some (.ref (ga X 0)), some (.ref (ga X 47)), some (.int (nI (6 * j)))] [] := by
  have hRel0 := hRel
  obtain ⟨n, T, hQ, hKp, ⟨ht, hi, hT⟩, rfl, rfl, rfl, hb0, hb1, hZ, hnn⟩ := hRel
  have hQ1 := hQ
  obtain ⟨h8, hm1, hN, hd, hnu, hvv, hok⟩ := hQ1
  refine v_aload_n hC rfl dL_law_1067 (q := 1068) rfl ?_
  refine v_aload_n hC rfl dL_law_1068 (q := 1069) rfl ?_
  refine v_iload_n hC rfl dL_law_1069 (q := 1070) rfl ?_
  refine v_iconst hC (v := 1) rfl dL_law_1070 (q := 1071) rfl ?_
  refine v_iadd hC dL_law_1071 (q := 1072) rfl ?_
  refine v_sld hC hX (k := 6 * j + 1) (by omega) hL (n6 j 1) dL_law_1072 (q := 1073) rfl ?_
  refine v_Vi hC lkV_L_133 (c_X5_lays hN h8 (by rw [hb1]; exact hZ)) rfl (by decide) (k := 0) (by decide) ch_0 rfl rfl (Nat.le_of_ble_eq_true rfl) dL_law_1073 (q := 1076) rfl ?_
  rintro _ _ ⟨rfl, rfl⟩
  rw [hb0, hb1, cg_lays (cq' := (fun q k => c (40 * q + k))) hZ hnn]
  refine v_aload_n hC rfl dL_law_1076 (q := 1077) rfl ?_
  refine v_aload_n hC rfl dL_law_1077 (q := 1078) rfl ?_
  refine v_iload_n hC rfl dL_law_1078 (q := 1079) rfl ?_
  refine v_iconst hC (v := 1) rfl dL_law_1079 (q := 1080) rfl ?_
  refine v_iadd hC dL_law_1080 (q := 1081) rfl ?_
  refine v_sld hC hX (k := 6 * j + 1) (by omega) hL (n6 j 1) dL_law_1081 (q := 1082) rfl ?_
  refine v_Vi hC lkV_L_136 (c_X6_lays hm1 h8 hZ) rfl (by decide) (k := 47) (by decide) hp_47 rfl rfl (Nat.le_of_ble_eq_true rfl) dL_law_1082 (q := 1085) rfl ?_
  rintro _ _ ⟨rfl, rfl⟩
  refine v_icmp_eq hC dL_law_1085 (t := 1241) rfl (q := 1088) rfl (fun _ => ?_) (fun h => absurd (rfl) h)
  exact nx _ _ _ _ _ _ _ _ _ _ _ _ _ _ (rel_fn ⟨n, T, qR_lay hZ hnn hQ, hKp, ⟨ht, hi, hT⟩, rfl, rfl, rfl, hb0, hb1, hZ, hnn⟩)

set_option maxHeartbeats 4000000 in
set_option maxRecDepth 100000 in
theorem law_book {l : Launch} {X : Gx} {C : Cx} {b L j : Nat} {xs : Nat → Int32} (hC : cOK X room_1 C cL_law RL) (hX : cX X C b L xs) (hL : L ≤ 3072) (hj : 6 * (j + 1) ≤ L) (nx : NX l X C b j 1241) {i m : Nat → Int32} {r : Nat → Nat → Int32} {c : Nat → Int64} {q nu : Nat → Nat → Int32} {vc : Nat → Nat → Nat → Int32} {sb : Nat → Nat → Int32} {tp by_ : Nat → Int32} {sh : Nat → Nat → Int32} {nn : Nat → Nat → Int64} {fo : Nat → Int32} {kp : Int32} (hRel : Rel i m r c q nu vc tp by_ sh nn fo kp) : V l X room_1 C (ch X (i, m, r, c) q nu vc sb tp by_ sh nn fo kp) 1090 [some (.ref b), some (.ref (ga X 0)), some (.ref (ga X 47)), some (.int (nI (6 * j)))] [] := by
  have hRel0 := hRel
  obtain ⟨n, T, hQ, hKp, ⟨ht, hi, hT⟩, rfl, rfl, rfl, hb0, hb1, hZ, hnn⟩ := hRel
  have hQ1 := hQ
  obtain ⟨h8, hm1, hN, hd, hnu, hvv, hok⟩ := hQ1
  refine v_aload_n hC rfl dL_law_1090 (q := 1091) rfl ?_
  refine v_aload_n hC rfl dL_law_1091 (q := 1092) rfl ?_
  refine v_iload_n hC rfl dL_law_1092 (q := 1093) rfl ?_
  refine v_iconst hC (v := 1) rfl dL_law_1093 (q := 1094) rfl ?_
  refine v_iadd hC dL_law_1094 (q := 1095) rfl ?_
  refine v_sld hC hX (k := 6 * j + 1) (by omega) hL (n6 j 1) dL_law_1095 (q := 1096) rfl ?_
  refine v_aload_n hC rfl dL_law_1096 (q := 1097) rfl ?_
  refine v_iload_n hC rfl dL_law_1097 (q := 1098) rfl ?_
  refine v_iconst hC (v := 2) rfl dL_law_1098 (q := 1099) rfl ?_
  refine v_iadd hC dL_law_1099 (q := 1100) rfl ?_
  refine v_sld hC hX (k := 6 * j + 2) (by omega) hL (n6 j 2) dL_law_1100 (q := 1101) rfl ?_
  refine v_Vi hC lkV_L_137 (c_X5_book hN h8 hnu hok (by rw [hb1]; exact hZ)) rfl (by decide) (k := 0) (by decide) ch_0 rfl rfl (Nat.le_of_ble_eq_true rfl) dL_law_1101 (q := 1104) rfl ?_
  rintro _ _ ⟨rfl, q2, n2, v2, sb2, rfl⟩
  rw [hb0, hb1]
  refine v_aload_n hC rfl dL_law_1104 (q := 1105) rfl ?_
  refine v_aload_n hC rfl dL_law_1105 (q := 1106) rfl ?_
  refine v_iload_n hC rfl dL_law_1106 (q := 1107) rfl ?_
  refine v_iconst hC (v := 1) rfl dL_law_1107 (q := 1108) rfl ?_
  refine v_iadd hC dL_law_1108 (q := 1109) rfl ?_
  refine v_sld hC hX (k := 6 * j + 1) (by omega) hL (n6 j 1) dL_law_1109 (q := 1110) rfl ?_
  refine v_aload_n hC rfl dL_law_1110 (q := 1111) rfl ?_
  refine v_iload_n hC rfl dL_law_1111 (q := 1112) rfl ?_
  refine v_iconst hC (v := 2) rfl dL_law_1112 (q := 1113) rfl ?_
  refine v_iadd hC dL_law_1113 (q := 1114) rfl ?_
  refine v_sld hC hX (k := 6 * j + 2) (by omega) hL (n6 j 2) dL_law_1114 (q := 1115) rfl ?_
  refine v_Vi hC lkV_L_140 (c_X6_book hm1 h8 hZ) rfl (by decide) (k := 47) (by decide) hp_47 rfl rfl (Nat.le_of_ble_eq_true rfl) dL_law_1115 (q := 1118) rfl ?_
  rintro _ _ ⟨rfl, W, rfl⟩
  refine v_icmp_eq hC dL_law_1118 (t := 1241) rfl (q := 1121) rfl (fun _ => ?_) (fun h => absurd (rfl) h)
  exact nx _ _ _ _ _ _ _ _ _ _ _ _ _ _ (rel_fn ⟨n, T, hQ, hKp, ⟨ht, hi, hT⟩, rfl, rfl, rfl, hb0, hb1, hZ, nn_book hZ hnn h8 hvv⟩)

set_option maxHeartbeats 4000000 in
set_option maxRecDepth 100000 in
theorem law_read {l : Launch} {X : Gx} {C : Cx} {b L j : Nat} {xs : Nat → Int32} (hC : cOK X room_1 C cL_law RL) (hX : cX X C b L xs) (hL : L ≤ 3072) (hj : 6 * (j + 1) ≤ L) (nx : NX l X C b j 1241) {i m : Nat → Int32} {r : Nat → Nat → Int32} {c : Nat → Int64} {q nu : Nat → Nat → Int32} {vc : Nat → Nat → Nat → Int32} {sb : Nat → Nat → Int32} {tp by_ : Nat → Int32} {sh : Nat → Nat → Int32} {nn : Nat → Nat → Int64} {fo : Nat → Int32} {kp : Int32} (hRel : Rel i m r c q nu vc tp by_ sh nn fo kp) : V l X room_1 C (ch X (i, m, r, c) q nu vc sb tp by_ sh nn fo kp) 1123 [some (.ref b), some (.ref (ga X 0)), some (.ref (ga X 47)), some (.int (nI (6 * j)))] [] := by
  have hRel0 := hRel
  obtain ⟨n, T, hQ, hKp, ⟨ht, hi, hT⟩, rfl, rfl, rfl, hb0, hb1, hZ, hnn⟩ := hRel
  have hQ1 := hQ
  obtain ⟨h8, hm1, hN, hd, hnu, hvv, hok⟩ := hQ1
  refine v_aload_n hC rfl dL_law_1123 (q := 1124) rfl ?_
  refine v_aload_n hC rfl dL_law_1124 (q := 1125) rfl ?_
  refine v_iload_n hC rfl dL_law_1125 (q := 1126) rfl ?_
  refine v_iconst hC (v := 1) rfl dL_law_1126 (q := 1127) rfl ?_
  refine v_iadd hC dL_law_1127 (q := 1128) rfl ?_
  refine v_sld hC hX (k := 6 * j + 1) (by omega) hL (n6 j 1) dL_law_1128 (q := 1129) rfl ?_
  refine v_aload_n hC rfl dL_law_1129 (q := 1130) rfl ?_
  refine v_iload_n hC rfl dL_law_1130 (q := 1131) rfl ?_
  refine v_iconst hC (v := 2) rfl dL_law_1131 (q := 1132) rfl ?_
  refine v_iadd hC dL_law_1132 (q := 1133) rfl ?_
  refine v_sld hC hX (k := 6 * j + 2) (by omega) hL (n6 j 2) dL_law_1133 (q := 1134) rfl ?_
  refine v_Vi hC lkV_L_141 (c_X5_read hN h8 hnu hok (by rw [hb1]; exact hZ)) rfl (by decide) (k := 0) (by decide) ch_0 rfl rfl (Nat.le_of_ble_eq_true rfl) dL_law_1134 (q := 1137) rfl ?_
  rintro _ _ ⟨rfl, q2, n2, v2, sb2, rfl⟩
  rw [hb0, hb1, cg_read (cq' := (fun q k => c (40 * q + k))) hZ hnn h8 hvv]
  refine v_aload_n hC rfl dL_law_1137 (q := 1138) rfl ?_
  refine v_aload_n hC rfl dL_law_1138 (q := 1139) rfl ?_
  refine v_iload_n hC rfl dL_law_1139 (q := 1140) rfl ?_
  refine v_iconst hC (v := 1) rfl dL_law_1140 (q := 1141) rfl ?_
  refine v_iadd hC dL_law_1141 (q := 1142) rfl ?_
  refine v_sld hC hX (k := 6 * j + 1) (by omega) hL (n6 j 1) dL_law_1142 (q := 1143) rfl ?_
  refine v_aload_n hC rfl dL_law_1143 (q := 1144) rfl ?_
  refine v_iload_n hC rfl dL_law_1144 (q := 1145) rfl ?_
  refine v_iconst hC (v := 2) rfl dL_law_1145 (q := 1146) rfl ?_
  refine v_iadd hC dL_law_1146 (q := 1147) rfl ?_
  refine v_sld hC hX (k := 6 * j + 2) (by omega) hL (n6 j 2) dL_law_1147 (q := 1148) rfl ?_
  refine v_Vi hC lkV_L_144 (c_X6_read hm1 h8 hZ) rfl (by decide) (k := 47) (by decide) hp_47 rfl rfl (Nat.le_of_ble_eq_true rfl) dL_law_1148 (q := 1151) rfl ?_
  rintro _ _ ⟨rfl, W, rfl⟩
  refine v_icmp_eq hC dL_law_1151 (t := 1241) rfl (q := 1154) rfl (fun _ => ?_) (fun h => absurd (rfl) h)
  exact nx _ _ _ _ _ _ _ _ _ _ _ _ _ _ (rel_fn (rel_j hRel0))

set_option maxHeartbeats 4000000 in
set_option maxRecDepth 100000 in
theorem law_image {l : Launch} {X : Gx} {C : Cx} {b L j : Nat} {xs : Nat → Int32} (hC : cOK X room_1 C cL_law RL) (hX : cX X C b L xs) (hL : L ≤ 3072) (hj : 6 * (j + 1) ≤ L) (nx : NX l X C b j 1241) {i m : Nat → Int32} {r : Nat → Nat → Int32} {c : Nat → Int64} {q nu : Nat → Nat → Int32} {vc : Nat → Nat → Nat → Int32} {sb : Nat → Nat → Int32} {tp by_ : Nat → Int32} {sh : Nat → Nat → Int32} {nn : Nat → Nat → Int64} {fo : Nat → Int32} {kp : Int32} (hRel : Rel i m r c q nu vc tp by_ sh nn fo kp) : V l X room_1 C (ch X (i, m, r, c) q nu vc sb tp by_ sh nn fo kp) 1156 [some (.ref b), some (.ref (ga X 0)), some (.ref (ga X 47)), some (.int (nI (6 * j)))] [] := by
  have hRel0 := hRel
  obtain ⟨n, T, hQ, hKp, ⟨ht, hi, hT⟩, rfl, rfl, rfl, hb0, hb1, hZ, hnn⟩ := hRel
  have hQ1 := hQ
  obtain ⟨h8, hm1, hN, hd, hnu, hvv, hok⟩ := hQ1
  refine v_aload_n hC rfl dL_law_1156 (q := 1157) rfl ?_
  refine v_Vi hC lkV_L_145 (c_X5_image hN h8) rfl (by decide) (k := 0) (by decide) ch_0 rfl rfl (Nat.le_of_ble_eq_true rfl) dL_law_1157 (q := 1160) rfl ?_
  rintro _ _ ⟨rfl, rfl⟩
  refine v_aload_n hC rfl dL_law_1160 (q := 1161) rfl ?_
  refine v_Vi hC lkV_L_148 c_X6_image rfl (by decide) (k := 47) (by decide) hp_47 rfl rfl (Nat.le_of_ble_eq_true rfl) dL_law_1161 (q := 1164) rfl ?_
  rintro _ _ ⟨rfl, rfl⟩
  refine v_icmp_eq hC dL_law_1164 (t := 1241) rfl (q := 1167) rfl (fun _ => ?_) (fun h => absurd (rfl) h)
  exact nx _ _ _ _ _ _ _ _ _ _ _ _ _ _ ⟨n, T, hQ, Or.inr ⟨n, qR_mix hQ⟩, ⟨ht, hi, hT⟩, rfl, rfl, rfl, hb0, hb1, hZ, hnn⟩

set_option maxHeartbeats 4000000 in
set_option maxRecDepth 100000 in
theorem law_undo {l : Launch} {X : Gx} {C : Cx} {b L j : Nat} {xs : Nat → Int32} (hC : cOK X room_1 C cL_law RL) (hX : cX X C b L xs) (hL : L ≤ 3072) (hj : 6 * (j + 1) ≤ L) (nx : NX l X C b j 1241) {i m : Nat → Int32} {r : Nat → Nat → Int32} {c : Nat → Int64} {q nu : Nat → Nat → Int32} {vc : Nat → Nat → Nat → Int32} {sb : Nat → Nat → Int32} {tp by_ : Nat → Int32} {sh : Nat → Nat → Int32} {nn : Nat → Nat → Int64} {fo : Nat → Int32} {kp : Int32} (hRel : Rel i m r c q nu vc tp by_ sh nn fo kp) : V l X room_1 C (ch X (i, m, r, c) q nu vc sb tp by_ sh nn fo kp) 1169 [some (.ref b), some (.ref (ga X 0)), some (.ref (ga X 47)), some (.int (nI (6 * j)))] [] := by
  have hRel0 := hRel
  obtain ⟨n, T, hQ, hKp, ⟨ht, hi, hT⟩, rfl, rfl, rfl, hb0, hb1, hZ, hnn⟩ := hRel
  have hQ1 := hQ
  obtain ⟨h8, hm1, hN, hd, hnu, hvv, hok⟩ := hQ1
  by_cases hc : i 0 = 0
  · have hS : ∀ x, S_undo (i 0) x = .inl 3 := fun x => by rw [S_undo, if_pos hc]
    refine v_aload_n hC rfl dL_law_1169 (q := 1170) rfl ?_
    refine v_Vi hC lkV_L_149 (c_X5_undo (n := 0) (fun h => absurd hc h)) rfl (by decide) (k := 0) (by decide) ch_0 rfl rfl (Nat.le_of_ble_eq_true rfl) dL_law_1170 (q := 1173) rfl ?_
    rintro _ _ ⟨rfl, rfl⟩
    rw [if_pos hc, hS]
    refine v_aload_n hC rfl dL_law_1173 (q := 1174) rfl ?_
    refine v_Vi hC lkV_L_152 c_X6_undo rfl (by decide) (k := 47) (by decide) hp_47 rfl rfl (Nat.le_of_ble_eq_true rfl) dL_law_1174 (q := 1177) rfl ?_
    rintro _ _ ⟨rfl, rfl⟩
    rw [if_pos hc, hS]
    refine v_icmp_eq hC dL_law_1177 (t := 1241) rfl (q := 1180) rfl (fun _ => ?_) (fun h => absurd (rfl) h)
    exact nx _ _ _ _ _ _ _ _ _ _ _ _ _ _ (rel_fn (x := .inl 3) hRel0)
  · have hS : ∀ x, S_undo (i 0) x = .inr x := fun x => by rw [S_undo, if_neg hc]
    obtain ⟨n1, hq1⟩ := hKp.resolve_left hc
    refine v_aload_n hC rfl dL_law_1169 (q := 1170) rfl ?_
    refine v_Vi hC lkV_L_149 (c_X5_undo (n := n1) (fun _ => ⟨hq1.2.2.1, hq1.1⟩)) rfl (by decide) (k := 0) (by decide) ch_0 rfl rfl (Nat.le_of_ble_eq_true rfl) dL_law_1170 (q := 1173) rfl ?_
    rintro _ _ ⟨rfl, rfl⟩
    rw [if_neg hc, hS]
    refine v_aload_n hC rfl dL_law_1173 (q := 1174) rfl ?_
    refine v_Vi hC lkV_L_152 c_X6_undo rfl (by decide) (k := 47) (by decide) hp_47 rfl rfl (Nat.le_of_ble_eq_true rfl) dL_law_1174 (q := 1177) rfl ?_
    rintro _ _ ⟨rfl, rfl⟩
    rw [if_neg hc, hS]
    refine v_icmp_eq hC dL_law_1177 (t := 1241) rfl (q := 1180) rfl (fun _ => ?_) (fun h => absurd (hq1.2.2.1.trans hq1.2.1.symm) h)
    exact nx _ _ _ _ _ _ _ _ _ _ _ _ _ _ ⟨n1, T, qR_mix hq1, Or.inr ⟨n1, hq1⟩, ⟨ht, hi, hT⟩, rfl, rfl, rfl, hb0, hb1, hZ, hnn⟩

set_option maxHeartbeats 4000000 in
set_option maxRecDepth 100000 in
theorem law_tear {l : Launch} {X : Gx} {C : Cx} {b L j : Nat} {xs : Nat → Int32} (hC : cOK X room_1 C cL_law RL) (hX : cX X C b L xs) (hL : L ≤ 3072) (hj : 6 * (j + 1) ≤ L) (nx : NX l X C b j 1241) {i m : Nat → Int32} {r : Nat → Nat → Int32} {c : Nat → Int64} {q nu : Nat → Nat → Int32} {vc : Nat → Nat → Nat → Int32} {sb : Nat → Nat → Int32} {tp by_ : Nat → Int32} {sh : Nat → Nat → Int32} {nn : Nat → Nat → Int64} {fo : Nat → Int32} {kp : Int32} (hRel : Rel i m r c q nu vc tp by_ sh nn fo kp) : V l X room_1 C (ch X (i, m, r, c) q nu vc sb tp by_ sh nn fo kp) 1182 [some (.ref b), some (.ref (ga X 0)), some (.ref (ga X 47)), some (.int (nI (6 * j)))] [] := by
  have hRel0 := hRel
  obtain ⟨n, T, hQ, hKp, ⟨ht, hi, hT⟩, rfl, rfl, rfl, hb0, hb1, hZ, hnn⟩ := hRel
  have hQ1 := hQ
  obtain ⟨h8, hm1, hN, hd, hnu, hvv, hok⟩ := hQ1
  refine v_aload_n hC rfl dL_law_1182 (q := 1183) rfl ?_
  refine v_Vi hC lkV_L_153 c_X5_tear rfl (by decide) (k := 0) (by decide) ch_0 rfl rfl (Nat.le_of_ble_eq_true rfl) dL_law_1183 (q := 1186) rfl ?_
  rintro _ _ ⟨rfl, rfl⟩
  refine v_aload_n hC rfl dL_law_1186 (q := 1187) rfl ?_
  refine v_Vi hC lkV_L_156 c_X6_tear rfl (by decide) (k := 47) (by decide) hp_47 rfl rfl (Nat.le_of_ble_eq_true rfl) dL_law_1187 (q := 1190) rfl ?_
  rintro _ _ ⟨rfl, rfl⟩
  refine v_icmp_eq hC dL_law_1190 (t := 1241) rfl (q := 1193) rfl (fun _ => ?_) (fun h => absurd (rfl) h)
  exact nx _ _ _ _ _ _ _ _ _ _ _ _ _ _ ⟨n, T, hQ, Or.inl rfl, ⟨ht, hi, hT⟩, rfl, rfl, rfl, hb0, hb1, hZ, hnn⟩

set_option maxHeartbeats 4000000 in
set_option maxRecDepth 100000 in
theorem law_count {l : Launch} {X : Gx} {C : Cx} {b L j : Nat} {xs : Nat → Int32} (hC : cOK X room_1 C cL_law RL) (hX : cX X C b L xs) (hL : L ≤ 3072) (hj : 6 * (j + 1) ≤ L) (nx : NX l X C b j 1241) {i m : Nat → Int32} {r : Nat → Nat → Int32} {c : Nat → Int64} {q nu : Nat → Nat → Int32} {vc : Nat → Nat → Nat → Int32} {sb : Nat → Nat → Int32} {tp by_ : Nat → Int32} {sh : Nat → Nat → Int32} {nn : Nat → Nat → Int64} {fo : Nat → Int32} {kp : Int32} (hRel : Rel i m r c q nu vc tp by_ sh nn fo kp) : V l X room_1 C (ch X (i, m, r, c) q nu vc sb tp by_ sh nn fo kp) 1195 [some (.ref b), some (.ref (ga X 0)), some (.ref (ga X 47)), some (.int (nI (6 * j)))] [] := by
  have hRel0 := hRel
  obtain ⟨n, T, hQ, hKp, ⟨ht, hi, hT⟩, rfl, rfl, rfl, hb0, hb1, hZ, hnn⟩ := hRel
  have hQ1 := hQ
  obtain ⟨h8, hm1, hN, hd, hnu, hvv, hok⟩ := hQ1
  refine v_aload_n hC rfl dL_law_1195 (q := 1196) rfl ?_
  refine v_aload_n hC rfl dL_law_1196 (q := 1197) rfl ?_
  refine v_iload_n hC rfl dL_law_1197 (q := 1198) rfl ?_
  refine v_iconst hC (v := 1) rfl dL_law_1198 (q := 1199) rfl ?_
  refine v_iadd hC dL_law_1199 (q := 1200) rfl ?_
  refine v_sld hC hX (k := 6 * j + 1) (by omega) hL (n6 j 1) dL_law_1200 (q := 1201) rfl ?_
  refine v_Vi hC lkV_L_157 (c_X5_count hN h8) rfl (by decide) (k := 0) (by decide) ch_0 rfl rfl (Nat.le_of_ble_eq_true rfl) dL_law_1201 (q := 1204) rfl ?_
  rintro _ _ ⟨rfl, rfl⟩
  rw [ht, ← hi, cg_count h8 hvv]
  refine v_aload_n hC rfl dL_law_1204 (q := 1205) rfl ?_
  refine v_aload_n hC rfl dL_law_1205 (q := 1206) rfl ?_
  refine v_iload_n hC rfl dL_law_1206 (q := 1207) rfl ?_
  refine v_iconst hC (v := 1) rfl dL_law_1207 (q := 1208) rfl ?_
  refine v_iadd hC dL_law_1208 (q := 1209) rfl ?_
  refine v_sld hC hX (k := 6 * j + 1) (by omega) hL (n6 j 1) dL_law_1209 (q := 1210) rfl ?_
  refine v_Vi hC lkV_L_160 (c_X6_count hm1 h8) rfl (by decide) (k := 47) (by decide) hp_47 rfl rfl (Nat.le_of_ble_eq_true rfl) dL_law_1210 (q := 1213) rfl ?_
  rintro _ _ ⟨rfl, rfl⟩
  refine v_icmp_eq hC dL_law_1213 (t := 1241) rfl (q := 1216) rfl (fun _ => ?_) (fun h => absurd (rfl) h)
  exact nx _ _ _ _ _ _ _ _ _ _ _ _ _ _ (rel_fn hRel0)

set_option maxHeartbeats 4000000 in
set_option maxRecDepth 100000 in
theorem law_status {l : Launch} {X : Gx} {C : Cx} {b L j : Nat} {xs : Nat → Int32} (hC : cOK X room_1 C cL_law RL) (hX : cX X C b L xs) (hL : L ≤ 3072) (hj : 6 * (j + 1) ≤ L) (nx : NX l X C b j 1241) {i m : Nat → Int32} {r : Nat → Nat → Int32} {c : Nat → Int64} {q nu : Nat → Nat → Int32} {vc : Nat → Nat → Nat → Int32} {sb : Nat → Nat → Int32} {tp by_ : Nat → Int32} {sh : Nat → Nat → Int32} {nn : Nat → Nat → Int64} {fo : Nat → Int32} {kp : Int32} (hRel : Rel i m r c q nu vc tp by_ sh nn fo kp) : V l X room_1 C (ch X (i, m, r, c) q nu vc sb tp by_ sh nn fo kp) 1218 [some (.ref b), some (.ref (ga X 0)), some (.ref (ga X 47)), some (.int (nI (6 * j)))] [] := by
  have hRel0 := hRel
  obtain ⟨n, T, hQ, hKp, ⟨ht, hi, hT⟩, rfl, rfl, rfl, hb0, hb1, hZ, hnn⟩ := hRel
  have hQ1 := hQ
  obtain ⟨h8, hm1, hN, hd, hnu, hvv, hok⟩ := hQ1
  refine v_aload_n hC rfl dL_law_1218 (q := 1219) rfl ?_
  refine v_aload_n hC rfl dL_law_1219 (q := 1220) rfl ?_
  refine v_iload_n hC rfl dL_law_1220 (q := 1221) rfl ?_
  refine v_iconst hC (v := 1) rfl dL_law_1221 (q := 1222) rfl ?_
  refine v_iadd hC dL_law_1222 (q := 1223) rfl ?_
  refine v_sld hC hX (k := 6 * j + 1) (by omega) hL (n6 j 1) dL_law_1223 (q := 1224) rfl ?_
  refine v_Vi hC lkV_L_161 (c_X5_status ) rfl (by decide) (k := 0) (by decide) ch_0 rfl rfl (Nat.le_of_ble_eq_true rfl) dL_law_1224 (q := 1227) rfl ?_
  rintro _ _ ⟨rfl, rfl⟩
  refine v_aload_n hC rfl dL_law_1227 (q := 1228) rfl ?_
  refine v_aload_n hC rfl dL_law_1228 (q := 1229) rfl ?_
  refine v_iload_n hC rfl dL_law_1229 (q := 1230) rfl ?_
  refine v_iconst hC (v := 1) rfl dL_law_1230 (q := 1231) rfl ?_
  refine v_iadd hC dL_law_1231 (q := 1232) rfl ?_
  refine v_sld hC hX (k := 6 * j + 1) (by omega) hL (n6 j 1) dL_law_1232 (q := 1233) rfl ?_
  refine v_Vi hC lkV_L_164 (c_X6_status ) rfl (by decide) (k := 47) (by decide) hp_47 rfl rfl (Nat.le_of_ble_eq_true rfl) dL_law_1233 (q := 1236) rfl ?_
  rintro _ _ ⟨rfl, rfl⟩
  refine v_icmp_eq hC dL_law_1236 (t := 1241) rfl (q := 1239) rfl (fun _ => ?_) (fun h => absurd (rfl) h)
  exact nx _ _ _ _ _ _ _ _ _ _ _ _ _ _ (rel_fn hRel0)
