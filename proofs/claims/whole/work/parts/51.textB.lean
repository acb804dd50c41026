theorem perS_skip {t : Nat → Int32} {T p : Nat} {w lo hi so : Int32} (h : ¬ tkK t T p = w) : perS t T p w lo hi so = .inr (so, p) := by rw [perS, if_neg h]
theorem perS_no {t : Nat → Int32} {T p B : Nat} {w lo hi so : Int32} (h : tkK t T p = w) (hB : hi < nI B) (hn : ¬ (tkK t T (tkE t T p) = 20 ∧ tkV t T (tkE t T p) < nI B)) : perS t T p w lo hi so = .inl (tkE t T p) := by
  rw [perS, if_pos h, if_neg]
  rintro ⟨h1, h2, h3⟩
  exact hn ⟨h1, Int32.lt_of_le_of_lt h3 hB⟩
theorem perS_ok {t : Nat → Int32} {T p v : Nat} {w lo hi so : Int32} (h : tkK t T p = w) (hk : tkK t T (tkE t T p) = 20) (hv : tkV t T (tkE t T p) = nI v) (h1 : lo ≤ nI v) (h2 : nI v ≤ hi) : perS t T p w lo hi so = .inr (nI v, tkE t T (tkE t T p)) := by
  rw [perS, if_pos h, hv, if_pos ⟨hk, h1, h2⟩]
theorem nI_0le {K : Nat} (h : K < 1000) : 0 ≤ nI K := Int32.not_lt.mp (nI_pos (by omega))
theorem nI_m1le {K : Nat} (h : K < 1000) : -1 ≤ nI K := Int32.le_trans (by decide) (nI_0le h)
theorem nI_nm1 {K : Nat} (h : K < 1000) : ¬ nI K = -1 := fun z => by have := nI_0le h; rw [z] at this; exact absurd this (by decide)
theorem newV_u1 {kd g g' w : Int32} : upd (newV kd g w) 1 g' = newV kd g' w := by
  funext j
  simp only [upd, newV]
  match j with
  | 0 => rfl
  | 1 => rfl
  | 2 => rfl
  | j + 3 => rw [if_neg (by omega)]; rfl
theorem newV_u2 {kd g w w' : Int32} : upd (newV kd g w) 2 w' = newV kd g w' := by
  funext j
  simp only [upd, newV]
  match j with
  | 0 => rfl
  | 1 => rfl
  | 2 => rfl
  | j + 3 => rw [if_neg (by omega)]; rfl
theorem tkK_nat (t : Nat → Int32) (T p : Nat) : ∃ x, x < 24 ∧ tkK t T p = nI x := by
  unfold tkK
  split
  · exact ⟨22, by decide, rfl⟩
  · split
    · unfold wordF
      split
      · rename_i w e
        have := fstN_lt _ _ _ ((wdF_eq _ _ _).symm.trans e)
        exact ⟨w, by omega, rfl⟩
      · exact ⟨23, by decide, rfl⟩
    · split
      · exact ⟨20, by decide, rfl⟩
      · split
        · exact ⟨21, by decide, rfl⟩
        · exact ⟨23, by decide, rfl⟩
theorem it_K {t : Nat → Int32} {T n p K : Nat} {m : Nat → Int32} (hK : K < 6) (h : tkK t T p = nI K) : itemS t T n m p = perI t T n m p := by
  rw [itemS, h, if_pos (show nI K ≤ 5 from nI_le (b := 5) (by omega) (by decide))]
theorem it_8 {t : Nat → Int32} {T n p : Nat} {m : Nat → Int32} (h : tkK t T p = nI 8) : itemS t T n m p = griI t T n m (tkE t T p) := by
  rw [itemS, h, if_neg (by decide), if_pos (by decide)]
theorem it_9 {t : Nat → Int32} {T n p : Nat} {m : Nat → Int32} (h : tkK t T p = nI 9) : itemS t T n m p = upI t T n m (tkE t T p) 1 := by
  rw [itemS, h, if_neg (by decide), if_neg (by decide), if_pos (by decide)]
theorem it_10 {t : Nat → Int32} {T n p : Nat} {m : Nat → Int32} (h : tkK t T p = nI 10) : itemS t T n m p = upI t T n m (tkE t T p) 0 := by
  rw [itemS, h, if_neg (by decide), if_neg (by decide), if_neg (by decide), if_pos (by decide)]
theorem it_no {t : Nat → Int32} {T n p : Nat} {m : Nat → Int32} (h8 : ¬ tkK t T p = nI 8) (h9 : ¬ tkK t T p = nI 9) (h10 : ¬ tkK t T p = nI 10) (h : ∀ K, K < 6 → ¬ tkK t T p = nI K) : itemS t T n m p = .inl p := by
  obtain ⟨x, hx, e⟩ := tkK_nat t T p
  have h6 : ¬ tkK t T p ≤ 5 := by
    rw [e]
    intro z
    have := (nI_leI (a := x) (b := 5) (by omega) (by decide)).mp z
    exact h x (by omega) e
  rw [itemS, if_neg h6, if_neg (show ¬ tkK t T p = 8 from h8), if_neg (show ¬ tkK t T p = 9 from h9), if_neg (show ¬ tkK t T p = 10 from h10)]
set_option maxHeartbeats 4000000 in
set_option maxRecDepth 100000 in
theorem c_X4_takesOne {l : Launch} {X : Gx} {M : MS} {q nu : Nat → Nat → Int32} {vc : Nat → Nat → Nat → Int32} {sb : Nat → Nat → Int32} {by_ : Nat → Int32} {sh : Nat → Nat → Int32} {nn : Nat → Nat → Int64} {fo : Nat → Int32} {kp : Int32} {T : Nat} (hT : T ≤ 120) {p : Nat} (hp1 : p ≤ T) {m : Nat → Int32} {n : Nat} {q2 n2 : Nat → Int32} {v2 : Nat → Nat → Int32} (hQ : qR m n q2 n2 v2) (h8n : n < 8) {kd : Int32} (hkd : tkK by_ T p = kd) (hk5 : 0 ≤ kd ∧ kd ≤ 5) : Ci l X yX4_takesOne cX4_takesOne 4 (some .boolean) (rmk 5 107) [.ref (ga X 35), .ref (ga X (1 + 11 * 2)), .int kd] (ch X M (va_up q 2 q2) (va_up nu 2 n2) (va_up vc 2 v2) sb (iv [nI T, tkC by_ T (p), nI (tkS by_ T (p)), nI (tkE by_ T (p))]) by_ sh nn fo kp) (fun z g => (∃ m' p' k' a' b' c', p' ≤ T ∧ perI by_ T n m p = .inr (m', p') ∧ qR m' k' a' b' c' ∧ z = 1 ∧ g = ch X M (va_up q 2 a') (va_up nu 2 b') (va_up vc 2 c') sb (iv [nI T, tkC by_ T (p'), nI (tkS by_ T (p')), nI (tkE by_ T (p'))]) by_ sh nn fo kp) ∨ (∃ p' a' b' c', p' ≤ T ∧ perI by_ T n m p = .inl p' ∧ z = 0 ∧ g = ch X M (va_up q 2 a') (va_up nu 2 b') (va_up vc 2 c') sb (iv [nI T, tkC by_ T (p'), nI (tkS by_ T (p')), nI (tkE by_ T (p'))]) by_ sh nn fo kp)) := by
  refine ct_z (own := RX4) (lv := [some (.ref (ga X 35)), some (.ref (ga X (1 + 11 * 2))), some (.int kd), none]) (by decide) rfl (Nat.le_of_ble_eq_true rfl) (Nat.le_of_ble_eq_true rfl) rfl (fun C hC hR => ?_)
  have hR0 := hQ
  obtain ⟨h8, hm1, hN, hd, hnu, hvv, hok⟩ := hR0
  have hE := (tkE_le (t := by_) hp1).2
  have hE2 := (tkE_le (t := by_) hE).2
  have hcnt : va_up q 2 q2 2 1 = nI n := by rw [va_up_self]; exact hN
  have hcnt2 : va_up q 2 (upd q2 1 (nI n + 1)) 2 1 = nI (n + 1) := by rw [va_up_self]; simp only [upd, if_true]; exact nI_1 n
  have hn8 : ¬ n = 8 := by omega
  have hE3 := (tkE_le (t := by_) hE2).2
  have tail : ∀ p2 gr, p2 ≤ T → perS by_ T (tkE by_ T p) 6 0 99 20 = .inr (gr, p2) → (0 ≤ gr ∧ gr ≤ 99) → V l X (rmk 5 107) C (ch X M (va_up q 2 (upd q2 1 (nI n + 1))) (va_up nu 2 (upd n2 n (nI n))) (va_up vc 2 (va_up v2 n (newV kd (gr) (-1)))) sb (iv [nI T, tkC by_ T (p2), nI (tkS by_ T (p2)), nI (tkE by_ T (p2))]) by_ sh nn fo kp) 46 [some (.ref (ga X 35)), some (.ref (ga X (1 + 11 * 2))), some (.int kd), some (.ref (ga X (4 + 11 * 2 + n)))] [] := by
    intro p2 gr hp2 hq hgr
    have hF := (tkE_le (t := by_) hp2).2
    have hF2 := (tkE_le (t := by_) hF).2
    refine v_aload_n hC rfl dX4_takesOne_46 (q := 47) rfl ?_
    refine v_ldcS hC (i := 7) rfl dX4_takesOne_47 (q := 49) rfl ?_
    refine v_Vi hC lkV_X4_36 (c_X3_isAtWord hT hp2 (w := 7) (by decide)) rfl (by decide) (k := 35) (by decide) ch_35v rfl rfl (Nat.le_of_ble_eq_true rfl) dX4_takesOne_49 (q := 52) rfl ?_
    rintro _ _ ⟨⟨hc49, rfl⟩ | ⟨hc49, rfl⟩, rfl⟩
    · refine v_if_eq hC dX4_takesOne_52 (t := 84) rfl (q := 55) rfl (fun h => absurd h (by decide)) (fun _ => ?_)
      refine v_aload_n hC rfl dX4_takesOne_55 (q := 56) rfl ?_
      refine v_Vv hC lkV_X4_27 (c_X3_step hT hF) rfl (by decide) (k := 35) (by decide) ch_35v rfl rfl (Nat.le_of_ble_eq_true rfl) dX4_takesOne_56 (q := 59) rfl ?_
      rintro _ rfl
      refine v_aload_n hC rfl dX4_takesOne_59 (q := 60) rfl ?_
      refine v_aload_n hC rfl dX4_takesOne_60 (q := 61) rfl ?_
      refine v_getN hC nl_X4_83 (k := 1 + 11 * 2) (by decide) (ch_q (b := 2) (by decide)) rfl dX4_takesOne_61 (q := 64) rfl ?_
      rw [hcnt2]
      refine v_Vi hC lkV_X4_69 (c_X3_isAtNumberBelow hT hF (B := n + 1) (by omega)) rfl (by decide) (k := 35) (by decide) ch_35v rfl rfl (Nat.le_of_ble_eq_true rfl) dX4_takesOne_64 (q := 67) rfl ?_
      rintro _ _ ⟨⟨⟨v64, hk64, hv64, hb64, hn64⟩, rfl⟩ | ⟨hc64, rfl⟩, rfl⟩
      · refine v_if_ne hC dX4_takesOne_67 (t := 72) rfl (q := 70) rfl (fun _ => ?_) (fun h => absurd h (by decide))
        refine v_aload_n hC rfl dX4_takesOne_72 (q := 73) rfl ?_
        refine v_aload_n hC rfl dX4_takesOne_73 (q := 74) rfl ?_
        refine v_Vi hC lkV_X4_73 (by have hh := c_X3_number (l := l) (X := X) (M := M) (q := va_up q 2 (upd q2 1 (nI n + 1))) (nu := va_up nu 2 (upd n2 n (nI n))) (vc := va_up vc 2 (va_up v2 n (newV kd (gr) (-1)))) (sb := sb) (by_ := by_) (sh := sh) (nn := nn) (fo := fo) (kp := kp) (t0 := nI T) (t1 := tkC by_ T (tkE by_ T p2)) (s := tkS by_ T (tkE by_ T p2)) (len := tkE by_ T (tkE by_ T p2) - tkS by_ T (tkE by_ T p2)) (by have := tkE_le (t := by_) hF; omega); rw [← (show tkE by_ T (tkE by_ T p2) = tkS by_ T (tkE by_ T p2) + (tkE by_ T (tkE by_ T p2) - tkS by_ T (tkE by_ T p2)) by have := tkE_le (t := by_) hF; omega)] at hh; exact hh) rfl (by decide) (k := 35) (by decide) ch_35v rfl rfl (Nat.le_of_ble_eq_true rfl) dX4_takesOne_74 (q := 77) rfl ?_
        rintro _ _ ⟨rfl, rfl⟩
        rw [hn64]
        refine v_putN hC nl_X4_86 pt_0_3 (k := 4 + 11 * 2 + n) (by omega) (ch_o (b := 2) (k := n) (by decide) (Or.inl (by omega))) (Nat.le_of_ble_eq_true rfl) rfl rfl (ch_of2 (by decide) (Or.inl (by omega)) _) dX4_takesOne_77 (q := 80) rfl ?_
        simp only [up_up, va_up_self, newV_u2]
        refine v_aload_n hC rfl dX4_takesOne_80 (q := 81) rfl ?_
        refine v_Vv hC lkV_X4_27 (c_X3_step hT hF2) rfl (by decide) (k := 35) (by decide) ch_35v rfl rfl (Nat.le_of_ble_eq_true rfl) dX4_takesOne_81 (q := 84) rfl ?_
        rintro _ rfl
        refine v_iconst hC (v := 1) rfl dX4_takesOne_84 (q := 85) rfl ?_
        refine hR _ _ _ _ ?_ (by first | rfl | decide | assumption) dX4_takesOne_85
        exact Or.inl ⟨_, _, n + 1, _, _, _, hF2, by simp only [perI, if_neg hn8, hq, perS_ok (lo := 0) (hi := nI n) (so := -1) (show tkK by_ T p2 = 7 from hc49) hk64 hv64 (nI_0le (by omega)) (nI_le (by omega) (by omega)), hkd], qR_new hQ h8n (okV_new hk5 hgr (nI_m1le (by omega))), rfl, rfl⟩
      · refine v_if_ne hC dX4_takesOne_67 (t := 72) rfl (q := 70) rfl (fun h => absurd h (by decide)) (fun _ => ?_)
        refine v_iconst hC (v := 0) rfl dX4_takesOne_70 (q := 71) rfl ?_
        refine hR _ _ _ _ ?_ (by first | rfl | decide | assumption) dX4_takesOne_71
        exact Or.inr ⟨_, _, _, _, hF, by simp only [perI, if_neg hn8, hq, perS_no (lo := 0) (so := -1) (show tkK by_ T p2 = 7 from hc49) (show nI n < nI (n + 1) from (nI_ltI (by omega) (by omega)).mpr (by omega)) hc64], rfl, rfl⟩
    · refine v_if_eq hC dX4_takesOne_52 (t := 84) rfl (q := 55) rfl (fun _ => ?_) (fun h => absurd h (by decide))
      refine v_iconst hC (v := 1) rfl dX4_takesOne_84 (q := 85) rfl ?_
      refine hR _ _ _ _ ?_ (by first | rfl | decide | assumption) dX4_takesOne_85
      exact Or.inl ⟨_, _, n + 1, _, _, _, hp2, by simp only [perI, if_neg hn8, hq, perS_skip (show ¬ tkK by_ T p2 = 7 from hc49), hkd], qR_new hQ h8n (okV_new hk5 hgr (by decide)), rfl, rfl⟩
  refine v_aload_n hC rfl dX4_takesOne_0 (q := 1) rfl ?_
  refine v_iload_n hC rfl dX4_takesOne_1 (q := 2) rfl ?_
  refine v_Vr hC lkV_X4_63 (c_X1_welcome_C (b := 2) (by decide) hcnt h8n) rfl (by decide) (k := 1 + 11 * 2) (by decide) (ch_q (b := 2) (by decide)) rfl rfl (Nat.le_of_ble_eq_true rfl) dX4_takesOne_2 (q := 5) rfl ?_
  rintro _ _ ⟨rfl, rfl⟩
  simp only [up_up, va_up_self]
  refine v_astore_3 hC rfl dX4_takesOne_5 (q := 6) rfl ?_
  refine v_aload_n hC rfl dX4_takesOne_6 (q := 7) rfl ?_
  refine v_Vv hC lkV_X4_27 (c_X3_step hT hE) rfl (by decide) (k := 35) (by decide) ch_35v rfl rfl (Nat.le_of_ble_eq_true rfl) dX4_takesOne_7 (q := 10) rfl ?_
  rintro _ rfl
  refine v_aload_n hC rfl dX4_takesOne_10 (q := 11) rfl ?_
  refine v_ldcS hC (i := 6) rfl dX4_takesOne_11 (q := 13) rfl ?_
  refine v_Vi hC lkV_X4_36 (c_X3_isAtWord hT hE (w := 6) (by decide)) rfl (by decide) (k := 35) (by decide) ch_35v rfl rfl (Nat.le_of_ble_eq_true rfl) dX4_takesOne_13 (q := 16) rfl ?_
  rintro _ _ ⟨⟨hc13, rfl⟩ | ⟨hc13, rfl⟩, rfl⟩
  · refine v_if_eq hC dX4_takesOne_16 (t := 46) rfl (q := 19) rfl (fun h => absurd h (by decide)) (fun _ => ?_)
    refine v_aload_n hC rfl dX4_takesOne_19 (q := 20) rfl ?_
    refine v_Vv hC lkV_X4_27 (c_X3_step hT hE2) rfl (by decide) (k := 35) (by decide) ch_35v rfl rfl (Nat.le_of_ble_eq_true rfl) dX4_takesOne_20 (q := 23) rfl ?_
    rintro _ rfl
    refine v_aload_n hC rfl dX4_takesOne_23 (q := 24) rfl ?_
    refine v_bipush hC (v := 100) rfl dX4_takesOne_24 (q := 26) rfl ?_
    refine v_Vi hC lkV_X4_69 (c_X3_isAtNumberBelow hT hE2 (B := 100) (by decide)) rfl (by decide) (k := 35) (by decide) ch_35v rfl rfl (Nat.le_of_ble_eq_true rfl) dX4_takesOne_26 (q := 29) rfl ?_
    rintro _ _ ⟨⟨⟨v26, hk26, hv26, hb26, hn26⟩, rfl⟩ | ⟨hc26, rfl⟩, rfl⟩
    · refine v_if_ne hC dX4_takesOne_29 (t := 34) rfl (q := 32) rfl (fun _ => ?_) (fun h => absurd h (by decide))
      refine v_aload_n hC rfl dX4_takesOne_34 (q := 35) rfl ?_
      refine v_aload_n hC rfl dX4_takesOne_35 (q := 36) rfl ?_
      refine v_Vi hC lkV_X4_73 (by have hh := c_X3_number (l := l) (X := X) (M := M) (q := va_up q 2 (upd q2 1 (nI n + 1))) (nu := va_up nu 2 (upd n2 n (nI n))) (vc := va_up vc 2 (va_up v2 n (newV kd (20) (-1)))) (sb := sb) (by_ := by_) (sh := sh) (nn := nn) (fo := fo) (kp := kp) (t0 := nI T) (t1 := tkC by_ T (tkE by_ T (tkE by_ T p))) (s := tkS by_ T (tkE by_ T (tkE by_ T p))) (len := tkE by_ T (tkE by_ T (tkE by_ T p)) - tkS by_ T (tkE by_ T (tkE by_ T p))) (by have := tkE_le (t := by_) hE2; omega); rw [← (show tkE by_ T (tkE by_ T (tkE by_ T p)) = tkS by_ T (tkE by_ T (tkE by_ T p)) + (tkE by_ T (tkE by_ T (tkE by_ T p)) - tkS by_ T (tkE by_ T (tkE by_ T p))) by have := tkE_le (t := by_) hE2; omega)] at hh; exact hh) rfl (by decide) (k := 35) (by decide) ch_35v rfl rfl (Nat.le_of_ble_eq_true rfl) dX4_takesOne_36 (q := 39) rfl ?_
      rintro _ _ ⟨rfl, rfl⟩
      rw [hn26]
      refine v_putN hC nl_X4_77 pt_0_2 (k := 4 + 11 * 2 + n) (by omega) (ch_o (b := 2) (k := n) (by decide) (Or.inl (by omega))) (Nat.le_of_ble_eq_true rfl) rfl rfl (ch_of1 (by decide) (Or.inl (by omega)) _) dX4_takesOne_39 (q := 42) rfl ?_
      simp only [up_up, va_up_self, newV_u1]
      refine v_aload_n hC rfl dX4_takesOne_42 (q := 43) rfl ?_
      refine v_Vv hC lkV_X4_27 (c_X3_step hT hE3) rfl (by decide) (k := 35) (by decide) ch_35v rfl rfl (Nat.le_of_ble_eq_true rfl) dX4_takesOne_43 (q := 46) rfl ?_
      rintro _ rfl
      exact tail _ _ hE3 (perS_ok (show tkK by_ T (tkE by_ T p) = 6 from hc13) hk26 hv26 (nI_0le (by omega)) (nI_le (b := 99) (by omega) (by decide))) ⟨nI_0le (by omega), nI_le (b := 99) (by omega) (by decide)⟩
    · refine v_if_ne hC dX4_takesOne_29 (t := 34) rfl (q := 32) rfl (fun h => absurd h (by decide)) (fun _ => ?_)
      refine v_iconst hC (v := 0) rfl dX4_takesOne_32 (q := 33) rfl ?_
      refine hR _ _ _ _ ?_ (by first | rfl | decide | assumption) dX4_takesOne_33
      exact Or.inr ⟨_, _, _, _, hE2, by simp only [perI, if_neg hn8, perS_no (lo := 0) (so := 20) (B := 100) (show tkK by_ T (tkE by_ T p) = 6 from hc13) (show (99 : Int32) < nI 100 by decide) hc26], rfl, rfl⟩
  · refine v_if_eq hC dX4_takesOne_16 (t := 46) rfl (q := 19) rfl (fun _ => ?_) (fun h => absurd h (by decide))
    exact tail _ _ hE (perS_skip hc13) ⟨by decide, by decide⟩

set_option maxHeartbeats 4000000 in
set_option maxRecDepth 100000 in
theorem c_X4_nameOf {l : Launch} {X : Gx} {f : Hp} {K : Nat} (hK : K < 6) : Cr l X yX4_nameOf cX4_nameOf 1 (some (.object "java/lang/String")) (rmk 0 0) [.int (nI K)] (f) (fun r_ g => r_ = gK X K ∧ g = f) := by
  refine ct_r (own := RX4) (lv := [some (.int (nI K))]) (by decide) rfl (Nat.le_of_ble_eq_true rfl) (Nat.le_of_ble_eq_true rfl) rfl (fun C hC hR => ?_)
  rcases (show K = 0 ∨ K = 1 ∨ K = 2 ∨ K = 3 ∨ K = 4 ∨ K = 5 by omega) with rfl | rfl | rfl | rfl | rfl | rfl
  · refine v_iload_n hC rfl dX4_nameOf_0 (q := 1) rfl ?_
    refine v_tout hC dX4_nameOf_1 (by decide) (t := 51) rfl ?_
    refine v_ldcS hC (i := 0) rfl dX4_nameOf_51 (q := 53) rfl ?_
    refine hR _ _ _ _ ?_ dX4_nameOf_53
    exact ⟨rfl, rfl⟩
  · refine v_iload_n hC rfl dX4_nameOf_0 (q := 1) rfl ?_
    refine v_tin hC dX4_nameOf_1 (by decide) (by decide) rfl (t := 36) rfl ?_
    refine v_ldcS hC (i := 1) rfl dX4_nameOf_36 (q := 38) rfl ?_
    refine hR _ _ _ _ ?_ dX4_nameOf_38
    exact ⟨rfl, rfl⟩
  · refine v_iload_n hC rfl dX4_nameOf_0 (q := 1) rfl ?_
    refine v_tin hC dX4_nameOf_1 (by decide) (by decide) rfl (t := 39) rfl ?_
    refine v_ldcS hC (i := 2) rfl dX4_nameOf_39 (q := 41) rfl ?_
    refine hR _ _ _ _ ?_ dX4_nameOf_41
    exact ⟨rfl, rfl⟩
  · refine v_iload_n hC rfl dX4_nameOf_0 (q := 1) rfl ?_
    refine v_tin hC dX4_nameOf_1 (by decide) (by decide) rfl (t := 42) rfl ?_
    refine v_ldcS hC (i := 3) rfl dX4_nameOf_42 (q := 44) rfl ?_
    refine hR _ _ _ _ ?_ dX4_nameOf_44
    exact ⟨rfl, rfl⟩
  · refine v_iload_n hC rfl dX4_nameOf_0 (q := 1) rfl ?_
    refine v_tin hC dX4_nameOf_1 (by decide) (by decide) rfl (t := 45) rfl ?_
    refine v_ldcS hC (i := 4) rfl dX4_nameOf_45 (q := 47) rfl ?_
    refine hR _ _ _ _ ?_ dX4_nameOf_47
    exact ⟨rfl, rfl⟩
  · refine v_iload_n hC rfl dX4_nameOf_0 (q := 1) rfl ?_
    refine v_tin hC dX4_nameOf_1 (by decide) (by decide) rfl (t := 48) rfl ?_
    refine v_ldcS hC (i := 5) rfl dX4_nameOf_48 (q := 50) rfl ?_
    refine hR _ _ _ _ ?_ dX4_nameOf_50
    exact ⟨rfl, rfl⟩

set_option maxHeartbeats 4000000 in
set_option maxRecDepth 100000 in
theorem c_X4_kindThere {l : Launch} {X : Gx} {M : MS} {q nu : Nat → Nat → Int32} {vc : Nat → Nat → Nat → Int32} {sb : Nat → Nat → Int32} {by_ : Nat → Int32} {sh : Nat → Nat → Int32} {nn : Nat → Nat → Int64} {fo : Nat → Int32} {kp : Int32} {T : Nat} (hT : T ≤ 120) {p : Nat} (hp1 : p ≤ T) : Ci l X yX4_kindThere cX4_kindThere 2 (some .int) (rmk 5 107) [.ref (ga X 35)] (ch X M q nu vc sb (iv [nI T, tkC by_ T (p), nI (tkS by_ T (p)), nI (tkE by_ T (p))]) by_ sh nn fo kp) (fun z g => (∃ K, K < 6 ∧ tkK by_ T p = nI K ∧ z = nI K ∧ g = ch X M q nu vc sb (iv [nI T, tkC by_ T (p), nI (tkS by_ T (p)), nI (tkE by_ T (p))]) by_ sh nn fo kp) ∨ ((∀ K, K < 6 → ¬ tkK by_ T p = nI K) ∧ z = -1 ∧ g = ch X M q nu vc sb (iv [nI T, tkC by_ T (p), nI (tkS by_ T (p)), nI (tkE by_ T (p))]) by_ sh nn fo kp)) := by
  refine ct_i (own := RX4) (lv := [some (.ref (ga X 35)), none]) (by decide) rfl (Nat.le_of_ble_eq_true rfl) (Nat.le_of_ble_eq_true rfl) rfl (fun C hC hR => ?_)
  have loop : ∀ j, j ≤ 6 → (∀ K, K < j → ¬ tkK by_ T p = nI K) → V l X (rmk 5 107) C (ch X M q nu vc sb (iv [nI T, tkC by_ T (p), nI (tkS by_ T (p)), nI (tkE by_ T (p))]) by_ sh nn fo kp) 2 [some (.ref (ga X 35)), some (.int (nI j))] [] := by
    refine v_up 6 ?_ ?_
    · intro hI
      refine v_iload_n hC rfl dX4_kindThere_2 (q := 3) rfl ?_
      refine v_bipush hC (v := 6) rfl dX4_kindThere_3 (q := 5) rfl ?_
      refine v_icmp_ge hC dX4_kindThere_5 (t := 27) rfl (q := 8) rfl (fun _ => ?_) (fun h => absurd (by decide) h)
      refine v_iconst hC (v := (-1)) rfl dX4_kindThere_27 (q := 28) rfl ?_
      refine hR _ _ _ _ ?_ dX4_kindThere_28
      exact Or.inr ⟨hI, rfl, rfl⟩
    · intro j hj ih hI
      refine v_iload_n hC rfl dX4_kindThere_2 (q := 3) rfl ?_
      refine v_bipush hC (v := 6) rfl dX4_kindThere_3 (q := 5) rfl ?_
      refine v_icmp_ge hC dX4_kindThere_5 (t := 27) rfl (q := 8) rfl (fun h => absurd h (nI_ge (b := 6) hj (by decide))) (fun _ => ?_)
      refine v_aload_n hC rfl dX4_kindThere_8 (q := 9) rfl ?_
      refine v_iload_n hC rfl dX4_kindThere_9 (q := 10) rfl ?_
      refine v_Sr hC lkS_X4_97 (c_X4_nameOf hj) rfl (by decide) rfl (Nat.le_of_ble_eq_true rfl) dX4_kindThere_10 (q := 13) rfl ?_
      rintro _ _ ⟨rfl, rfl⟩
      refine v_Vi hC lkV_X4_36 (c_X3_isAtWord hT hp1 (w := j) (by omega)) rfl (by decide) (k := 35) (by decide) ch_35v rfl rfl (Nat.le_of_ble_eq_true rfl) dX4_kindThere_13 (q := 16) rfl ?_
      rintro _ _ ⟨⟨hc13, rfl⟩ | ⟨hc13, rfl⟩, rfl⟩
      · refine v_if_eq hC dX4_kindThere_16 (t := 21) rfl (q := 19) rfl (fun h => absurd h (by decide)) (fun _ => ?_)
        refine v_iload_n hC rfl dX4_kindThere_19 (q := 20) rfl ?_
        refine hR _ _ _ _ ?_ dX4_kindThere_20
        exact Or.inl ⟨j, hj, hc13, rfl, rfl⟩
      · refine v_if_eq hC dX4_kindThere_16 (t := 21) rfl (q := 19) rfl (fun _ => ?_) (fun h => absurd h (by decide))
        refine v_iinc_1 hC (v := _ + 1) rfl rfl dX4_kindThere_21 (q := 24) rfl ?_
        refine v_goto hC dX4_kindThere_24 (t := 2) rfl ?_
        refine v_same rfl ?_ rfl (ih (lt_s hI hc13))
        simp [nI_1]
  refine v_iconst hC (v := 0) rfl dX4_kindThere_0 (q := 1) rfl ?_
  refine v_istore_1 hC rfl dX4_kindThere_1 (q := 2) rfl ?_
  exact loop 0 (by decide) (fun K hK => absurd hK (Nat.not_lt_zero _))

set_option maxHeartbeats 4000000 in
set_option maxRecDepth 100000 in
theorem c_X4_takesItem {l : Launch} {X : Gx} {M : MS} {q nu : Nat → Nat → Int32} {vc : Nat → Nat → Nat → Int32} {sb : Nat → Nat → Int32} {by_ : Nat → Int32} {sh : Nat → Nat → Int32} {nn : Nat → Nat → Int64} {fo : Nat → Int32} {kp : Int32} {T : Nat} (hT : T ≤ 120) {p : Nat} (hp1 : p ≤ T) {m : Nat → Int32} {n : Nat} {q2 n2 : Nat → Int32} {v2 : Nat → Nat → Int32} (hQ : qR m n q2 n2 v2) : Ci l X yX4_takesItem cX4_takesItem 3 (some .boolean) (rmk 6 130) [.ref (ga X 35), .ref (ga X (1 + 11 * 2))] (ch X M (va_up q 2 q2) (va_up nu 2 n2) (va_up vc 2 v2) sb (iv [nI T, tkC by_ T (p), nI (tkS by_ T (p)), nI (tkE by_ T (p))]) by_ sh nn fo kp) (fun z g => (∃ m' p' k' a' b' c', p' ≤ T ∧ itemS by_ T n m p = .inr (m', p') ∧ qR m' k' a' b' c' ∧ z = 1 ∧ g = ch X M (va_up q 2 a') (va_up nu 2 b') (va_up vc 2 c') sb (iv [nI T, tkC by_ T (p'), nI (tkS by_ T (p')), nI (tkE by_ T (p'))]) by_ sh nn fo kp) ∨ (∃ p' a' b' c', p' ≤ T ∧ itemS by_ T n m p = .inl p' ∧ z = 0 ∧ g = ch X M (va_up q 2 a') (va_up nu 2 b') (va_up vc 2 c') sb (iv [nI T, tkC by_ T (p'), nI (tkS by_ T (p')), nI (tkE by_ T (p'))]) by_ sh nn fo kp)) := by
  refine ct_z (own := RX4) (lv := [some (.ref (ga X 35)), some (.ref (ga X (1 + 11 * 2))), none]) (by decide) rfl (Nat.le_of_ble_eq_true rfl) (Nat.le_of_ble_eq_true rfl) rfl (fun C hC hR => ?_)
  have hR0 := hQ
  obtain ⟨h8, hm1, hN, hd, hnu, hvv, hok⟩ := hR0
  have hE := (tkE_le (t := by_) hp1).2
  have hE2 := (tkE_le (t := by_) hE).2
  have hcnt : va_up q 2 q2 2 1 = nI n := by rw [va_up_self]; exact hN
  refine v_aload_n hC rfl dX4_takesItem_0 (q := 1) rfl ?_
  refine v_ldcS hC (i := 8) rfl dX4_takesItem_1 (q := 3) rfl ?_
  refine v_Vi hC lkV_X4_36 (c_X3_isAtWord hT hp1 (w := 8) (by decide)) rfl (by decide) (k := 35) (by decide) ch_35v rfl rfl (Nat.le_of_ble_eq_true rfl) dX4_takesItem_3 (q := 6) rfl ?_
  rintro _ _ ⟨⟨hc3, rfl⟩ | ⟨hc3, rfl⟩, rfl⟩
  · refine v_if_eq hC dX4_takesItem_6 (t := 15) rfl (q := 9) rfl (fun h => absurd h (by decide)) (fun _ => ?_)
    refine v_aload_n hC rfl dX4_takesItem_9 (q := 10) rfl ?_
    refine v_aload_n hC rfl dX4_takesItem_10 (q := 11) rfl ?_
    refine v_Si hC lkS_X4_40 (c_X4_takesGrind hT hp1 hQ) rfl (by decide) rfl (Nat.le_of_ble_eq_true rfl) dX4_takesItem_11 (q := 14) rfl ?_
    rintro _ _ (⟨m11, p11, k11, a11, b11, c11, hp11, hs11, hr11, rfl, rfl⟩ | ⟨p11, a11, b11, c11, hp11, hs11, rfl, rfl⟩)
    · refine hR _ _ _ _ ?_ (by first | rfl | decide | assumption) dX4_takesItem_14
      exact Or.inl ⟨_, _, _, _, _, _, hp11, (it_8 hc3).trans hs11, hr11, rfl, rfl⟩
    · refine hR _ _ _ _ ?_ (by first | rfl | decide | assumption) dX4_takesItem_14
      exact Or.inr ⟨_, _, _, _, hp11, (it_8 hc3).trans hs11, rfl, rfl⟩
  · refine v_if_eq hC dX4_takesItem_6 (t := 15) rfl (q := 9) rfl (fun _ => ?_) (fun h => absurd h (by decide))
    refine v_aload_n hC rfl dX4_takesItem_15 (q := 16) rfl ?_
    refine v_ldcS hC (i := 9) rfl dX4_takesItem_16 (q := 18) rfl ?_
    refine v_Vi hC lkV_X4_36 (c_X3_isAtWord hT hp1 (w := 9) (by decide)) rfl (by decide) (k := 35) (by decide) ch_35v rfl rfl (Nat.le_of_ble_eq_true rfl) dX4_takesItem_18 (q := 21) rfl ?_
    rintro _ _ ⟨⟨hc18, rfl⟩ | ⟨hc18, rfl⟩, rfl⟩
    · refine v_if_eq hC dX4_takesItem_21 (t := 31) rfl (q := 24) rfl (fun h => absurd h (by decide)) (fun _ => ?_)
      refine v_aload_n hC rfl dX4_takesItem_24 (q := 25) rfl ?_
      refine v_aload_n hC rfl dX4_takesItem_25 (q := 26) rfl ?_
      refine v_iconst hC (v := 1) rfl dX4_takesItem_26 (q := 27) rfl ?_
      refine v_Si hC lkS_X4_45 (c_X4_takesUp hT hp1 hQ (Or.inr rfl)) rfl (by decide) rfl (Nat.le_of_ble_eq_true rfl) dX4_takesItem_27 (q := 30) rfl ?_
      rintro _ _ (⟨m27, p27, k27, a27, b27, c27, hp27, hs27, hr27, rfl, rfl⟩ | ⟨p27, a27, b27, c27, hp27, hs27, rfl, rfl⟩)
      · refine hR _ _ _ _ ?_ (by first | rfl | decide | assumption) dX4_takesItem_30
        exact Or.inl ⟨_, _, _, _, _, _, hp27, (it_9 hc18).trans hs27, hr27, rfl, rfl⟩
      · refine hR _ _ _ _ ?_ (by first | rfl | decide | assumption) dX4_takesItem_30
        exact Or.inr ⟨_, _, _, _, hp27, (it_9 hc18).trans hs27, rfl, rfl⟩
    · refine v_if_eq hC dX4_takesItem_21 (t := 31) rfl (q := 24) rfl (fun _ => ?_) (fun h => absurd h (by decide))
      refine v_aload_n hC rfl dX4_takesItem_31 (q := 32) rfl ?_
      refine v_ldcS hC (i := 10) rfl dX4_takesItem_32 (q := 34) rfl ?_
      refine v_Vi hC lkV_X4_36 (c_X3_isAtWord hT hp1 (w := 10) (by decide)) rfl (by decide) (k := 35) (by decide) ch_35v rfl rfl (Nat.le_of_ble_eq_true rfl) dX4_takesItem_34 (q := 37) rfl ?_
      rintro _ _ ⟨⟨hc34, rfl⟩ | ⟨hc34, rfl⟩, rfl⟩
      · refine v_if_eq hC dX4_takesItem_37 (t := 47) rfl (q := 40) rfl (fun h => absurd h (by decide)) (fun _ => ?_)
        refine v_aload_n hC rfl dX4_takesItem_40 (q := 41) rfl ?_
        refine v_aload_n hC rfl dX4_takesItem_41 (q := 42) rfl ?_
        refine v_iconst hC (v := 0) rfl dX4_takesItem_42 (q := 43) rfl ?_
        refine v_Si hC lkS_X4_45 (c_X4_takesUp hT hp1 hQ (Or.inl rfl)) rfl (by decide) rfl (Nat.le_of_ble_eq_true rfl) dX4_takesItem_43 (q := 46) rfl ?_
        rintro _ _ (⟨m43, p43, k43, a43, b43, c43, hp43, hs43, hr43, rfl, rfl⟩ | ⟨p43, a43, b43, c43, hp43, hs43, rfl, rfl⟩)
        · refine hR _ _ _ _ ?_ (by first | rfl | decide | assumption) dX4_takesItem_46
          exact Or.inl ⟨_, _, _, _, _, _, hp43, (it_10 hc34).trans hs43, hr43, rfl, rfl⟩
        · refine hR _ _ _ _ ?_ (by first | rfl | decide | assumption) dX4_takesItem_46
          exact Or.inr ⟨_, _, _, _, hp43, (it_10 hc34).trans hs43, rfl, rfl⟩
      · refine v_if_eq hC dX4_takesItem_37 (t := 47) rfl (q := 40) rfl (fun _ => ?_) (fun h => absurd h (by decide))
        refine v_aload_n hC rfl dX4_takesItem_47 (q := 48) rfl ?_
        refine v_Si hC lkS_X4_51 (c_X4_kindThere hT hp1) rfl (by decide) rfl (Nat.le_of_ble_eq_true rfl) dX4_takesItem_48 (q := 51) rfl ?_
        rintro _ _ (⟨K48, hK48, hk48, rfl, rfl⟩ | ⟨hk48, rfl, rfl⟩)
        · refine v_istore_2 hC rfl dX4_takesItem_51 (q := 52) rfl ?_
          refine v_iload_n hC rfl dX4_takesItem_52 (q := 53) rfl ?_
          refine v_iconst hC (v := (-1)) rfl dX4_takesItem_53 (q := 54) rfl ?_
          refine v_icmp_eq hC dX4_takesItem_54 (t := 77) rfl (q := 57) rfl (fun h => absurd h (nI_nm1 (by omega))) (fun _ => ?_)
          refine v_aload_n hC rfl dX4_takesItem_57 (q := 58) rfl ?_
          refine v_Vi hC lkV_X4_55 (c_X1_isFull_C (b := 2) (by decide) hcnt h8) rfl (by decide) (k := 1 + 11 * 2) (by decide) (ch_q (b := 2) (by decide)) rfl rfl (Nat.le_of_ble_eq_true rfl) dX4_takesItem_58 (q := 61) rfl ?_
          rintro _ _ ⟨⟨hc58, rfl⟩ | ⟨hc58, rfl⟩, rfl⟩
          · refine v_if_ne hC dX4_takesItem_61 (t := 77) rfl (q := 64) rfl (fun _ => ?_) (fun h => absurd h (by decide))
            refine v_iconst hC (v := 0) rfl dX4_takesItem_77 (q := 78) rfl ?_
            refine hR _ _ _ _ ?_ (by first | rfl | decide | assumption) dX4_takesItem_78
            exact Or.inr ⟨_, _, _, _, hp1, by rw [it_K hK48 hk48, perI, if_pos hc58], rfl, rfl⟩
          · refine v_if_ne hC dX4_takesItem_61 (t := 77) rfl (q := 64) rfl (fun h => absurd h (by decide)) (fun _ => ?_)
            refine v_aload_n hC rfl dX4_takesItem_64 (q := 65) rfl ?_
            refine v_aload_n hC rfl dX4_takesItem_65 (q := 66) rfl ?_
            refine v_iload_n hC rfl dX4_takesItem_66 (q := 67) rfl ?_
            refine v_Si hC lkS_X4_60 (c_X4_takesOne hT hp1 hQ (by omega) hk48 ⟨nI_0le (by omega), nI_le (b := 5) (by omega) (by decide)⟩) rfl (by decide) rfl (Nat.le_of_ble_eq_true rfl) dX4_takesItem_67 (q := 70) rfl ?_
            rintro _ _ (⟨m67, p67, k67, a67, b67, c67, hp67, hs67, hr67, rfl, rfl⟩ | ⟨p67, a67, b67, c67, hp67, hs67, rfl, rfl⟩)
            · refine v_if_eq hC dX4_takesItem_70 (t := 77) rfl (q := 73) rfl (fun h => absurd h (by decide)) (fun _ => ?_)
              refine v_iconst hC (v := 1) rfl dX4_takesItem_73 (q := 74) rfl ?_
              refine v_goto hC dX4_takesItem_74 (t := 78) rfl ?_
              refine hR _ _ _ _ ?_ (by first | rfl | decide | assumption) dX4_takesItem_78
              exact Or.inl ⟨_, _, _, _, _, _, hp67, (it_K hK48 hk48).trans hs67, hr67, rfl, rfl⟩
            · refine v_if_eq hC dX4_takesItem_70 (t := 77) rfl (q := 73) rfl (fun _ => ?_) (fun h => absurd h (by decide))
              refine v_iconst hC (v := 0) rfl dX4_takesItem_77 (q := 78) rfl ?_
              refine hR _ _ _ _ ?_ (by first | rfl | decide | assumption) dX4_takesItem_78
              exact Or.inr ⟨_, _, _, _, hp67, (it_K hK48 hk48).trans hs67, rfl, rfl⟩
        · refine v_istore_2 hC rfl dX4_takesItem_51 (q := 52) rfl ?_
          refine v_iload_n hC rfl dX4_takesItem_52 (q := 53) rfl ?_
          refine v_iconst hC (v := (-1)) rfl dX4_takesItem_53 (q := 54) rfl ?_
          refine v_icmp_eq hC dX4_takesItem_54 (t := 77) rfl (q := 57) rfl (fun _ => ?_) (fun h => absurd h (by decide))
          refine v_iconst hC (v := 0) rfl dX4_takesItem_77 (q := 78) rfl ?_
          refine hR _ _ _ _ ?_ (by first | rfl | decide | assumption) dX4_takesItem_78
          exact Or.inr ⟨_, _, _, _, hp1, it_no hc3 hc18 hc34 hk48, rfl, rfl⟩
