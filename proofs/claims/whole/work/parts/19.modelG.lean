theorem ix120 : ∀ j : Fin 120, ¬ (nI j.val < 0 ∨ 120 ≤ (nI j.val).toNatClampNeg) := by decide +kernel
theorem ix120' {j : Nat} (h : j < 120) : vp_in (nI j) 120 := ix120 ⟨j, h⟩
set_option maxHeartbeats 4000000 in
set_option maxRecDepth 100000 in
theorem c_X6_isByte {l : Launch} {X : Gx} {S : CS} {m : Nat → Int32} {r : Nat → Nat → Int32} {c : Nat → Int64} {a0 a2 a3 a4 a5 a6 : Int32} {T : Nat} (hT : T ≤ 120) {p : Nat} {lo hi : Int32} (h1 : p ≤ 120) : Ci l X yX6_isByte cX6_isByte 4 (some .boolean) (rmk 1 23) [.ref (ga X 47), .int (nI p), .int lo, .int hi] (hp X S (iv [a0, nI T, a2, a3, a4, a5, a6], m, r, c)) (fun z g => ((p < T ∧ (lo ≤ r 4 p ∧ r 4 p ≤ hi)) ∧ z = 1 ∨ ¬ (p < T ∧ (lo ≤ r 4 p ∧ r 4 p ≤ hi)) ∧ z = 0) ∧ g = hp X S (iv [a0, nI T, a2, a3, a4, a5, a6], m, r, c)) := by
  refine ct_z (own := RX6) (lv := [some (.ref (ga X 47)), some (.int (nI p)), some (.int lo), some (.int hi)]) (by decide) rfl (Nat.le_of_ble_eq_true rfl) (Nat.le_of_ble_eq_true rfl) rfl (fun C hC hR => ?_)
  refine v_iload_n hC rfl dX6_isByte_0 (q := 1) rfl ?_
  refine v_aload_n hC rfl dX6_isByte_1 (q := 2) rfl ?_
  refine v_get hC fl_X6_147 (k := 47) (by decide) hp_47v rfl dX6_isByte_2 (q := 5) rfl ?_
  refine v_icmp_ge hC dX6_isByte_5 (t := 27) rfl (q := 8) rfl (fun h5 => ?_) (fun h5 => ?_)
  · refine v_iconst hC (v := 0) rfl dX6_isByte_27 (q := 28) rfl ?_
    refine hR _ _ _ _ ?_ (by first | rfl | decide | assumption) dX6_isByte_28
    exact ⟨Or.inr ⟨fun z => nI_ge z.1 (by omega) h5, rfl⟩, rfl⟩
  · have hpT : p < T := Nat.not_le.mp (fun z => h5 (nI_le z (by omega)))
    refine v_aload_n hC rfl dX6_isByte_8 (q := 9) rfl ?_
    refine v_get hC fl_X6_22 (k := 47) (by decide) hp_47v rfl dX6_isByte_9 (q := 12) rfl ?_
    refine v_iload_n hC rfl dX6_isByte_12 (q := 13) rfl ?_
    refine v_iald hC (k := 52) (by decide) hp_52 (ix120' (by omega)) (j := p) (nI_clamp (by omega)) dX6_isByte_13 (q := 14) rfl ?_
    refine v_i2l hC dX6_isByte_14 (q := 15) rfl ?_
    refine v_iload_n hC rfl dX6_isByte_15 (q := 16) rfl ?_
    refine v_iload_n hC rfl dX6_isByte_16 (q := 17) rfl ?_
    refine v_Si hC lkS_X6_41 c_X6_in rfl (by decide) rfl (Nat.le_of_ble_eq_true rfl) dX6_isByte_17 (q := 20) rfl ?_
    rintro _ _ ⟨⟨hc17, rfl⟩ | ⟨hc17, rfl⟩, rfl⟩
    · refine v_if_eq hC dX6_isByte_20 (t := 27) rfl (q := 23) rfl (fun h => absurd h (by decide)) (fun _ => ?_)
      refine v_iconst hC (v := 1) rfl dX6_isByte_23 (q := 24) rfl ?_
      refine v_goto hC dX6_isByte_24 (t := 28) rfl ?_
      refine hR _ _ _ _ ?_ (by first | rfl | decide | assumption) dX6_isByte_28
      exact ⟨Or.inl ⟨⟨hpT, hc17⟩, rfl⟩, rfl⟩
    · refine v_if_eq hC dX6_isByte_20 (t := 27) rfl (q := 23) rfl (fun _ => ?_) (fun h => absurd h (by decide))
      refine v_iconst hC (v := 0) rfl dX6_isByte_27 (q := 28) rfl ?_
      refine hR _ _ _ _ ?_ (by first | rfl | decide | assumption) dX6_isByte_28
      exact ⟨Or.inr ⟨fun z => hc17 z.2, rfl⟩, rfl⟩

theorem nmA : ∀ w : Fin 11, ∀ j : Fin 7, nmL.getD (7 * w.val + j.val) 0 = if j.val < swN.getD w.val 0 then (swL.getD w.val []).getD j.val 0 else 0 := by decide +kernel
theorem nmB : ∀ w : Fin 11, swN.getD w.val 0 ≤ 7 ∧ ∀ j : Fin 7, j.val < swN.getD w.val 0 → (swL.getD w.val []).getD j.val 0 ≠ 0 := by decide +kernel
theorem ixN : ∀ w : Fin 11, ∀ j : Fin 7, (¬ (7 * nI w.val + nI j.val < 0 ∨ 77 ≤ (7 * nI w.val + nI j.val).toNatClampNeg)) ∧ (7 * nI w.val + nI j.val).toNatClampNeg = 7 * w.val + j.val := by decide +kernel
theorem nm_at {w j : Nat} (h1 : w < 11) (h2 : j < 7) : nmF (7 * nI w + nI j).toNatClampNeg = .int (nmL.getD (7 * w + j) 0) := by
  rw [(ixN ⟨w, h1⟩ ⟨j, h2⟩).2, nmF]
theorem nm_iff {t : Nat → Int32} {s w len : Nat} (hw : w < 11) (h0 : 0 < len) (hl : ∀ k, k < len → t (s + k) ≠ 0) : ((len ≤ 7 ∧ (len = 7 ∨ nmL.getD (7 * w + len) 0 = 0)) ∧ ∀ j, j < len → nmL.getD (7 * w + j) 0 = t (s + j)) ↔ mW t s len w = true := by
  obtain ⟨b1, b2⟩ := nmB ⟨w, hw⟩
  dsimp only at b1 b2
  unfold mW
  rw [decide_eq_true_eq]
  constructor
  · rintro ⟨⟨h1, h2⟩, h3⟩
    have e : swN.getD w 0 = len := by
      rcases Nat.lt_trichotomy (swN.getD w 0) len with q | q | q
      · exfalso
        have h4 := h3 _ q
        have h5 := nmA ⟨w, hw⟩ ⟨swN.getD w 0, by omega⟩
        dsimp only at h5
        rw [if_neg (Nat.lt_irrefl _)] at h5
        rw [h5] at h4
        exact hl _ q h4.symm
      · exact q
      · exfalso
        rcases h2 with h2 | h2
        · omega
        · have h5 := nmA ⟨w, hw⟩ ⟨len, by omega⟩
          dsimp only at h5
          rw [if_pos q] at h5
          exact b2 ⟨len, by omega⟩ q (h5.symm.trans h2)
    refine ⟨e, fun k hk => ?_⟩
    have h5 := nmA ⟨w, hw⟩ ⟨k, by omega⟩
    dsimp only at h5
    rw [if_pos (by omega)] at h5
    rw [← h5]
    exact h3 k hk
  · rintro ⟨e, h3⟩
    refine ⟨⟨by omega, ?_⟩, fun j hj => ?_⟩
    · by_cases h7 : len = 7
      · exact Or.inl h7
      · have h5 := nmA ⟨w, hw⟩ ⟨len, by omega⟩
        dsimp only at h5
        rw [if_neg (by omega)] at h5
        exact Or.inr h5
    · have h5 := nmA ⟨w, hw⟩ ⟨j, by omega⟩
      dsimp only at h5
      rw [if_pos (by omega)] at h5
      rw [h5]
      exact h3 j hj
set_option maxHeartbeats 4000000 in
set_option maxRecDepth 100000 in
theorem c_X6_isName {l : Launch} {X : Gx} {S : CS} {m : Nat → Int32} {r : Nat → Nat → Int32} {c : Nat → Int64} {a0 a2 a4 a5 a6 : Int32} {T : Nat} (hT : T ≤ 120) {s w len : Nat} (h1 : w < 11) (h0 : 0 < len) (hs : s + len ≤ T) (hl : ∀ k, k < len → r 4 (s + k) ≠ 0) : Ci l X yX6_isName cX6_isName 5 (some .boolean) (rmk 0 0) [.ref (ga X 47), .int (nI w), .int (nI len)] (hp X S (iv [a0, nI T, a2, nI s, a4, a5, a6], m, r, c)) (fun z g => (mW (r 4) s len w = true ∧ z = 1 ∨ ¬ mW (r 4) s len w = true ∧ z = 0) ∧ g = hp X S (iv [a0, nI T, a2, nI s, a4, a5, a6], m, r, c)) := by
  refine ct_z (own := RX6) (lv := [some (.ref (ga X 47)), some (.int (nI w)), some (.int (nI len)), none, none]) (by decide) rfl (Nat.le_of_ble_eq_true rfl) (Nat.le_of_ble_eq_true rfl) rfl (fun C hC hR => ?_)
  have h7 : ∀ q, q ≤ 7 → nI q ≤ 7 := fun q h => nI_le (b := 7) h (by decide)
  have no : ∀ q, ¬ mW (r 4) s len w = true → V l X (rmk 0 0) C (hp X S (iv [a0, nI T, a2, nI s, a4, a5, a6], m, r, c)) 34 [some (.ref (ga X 47)), some (.int (nI w)), some (.int (nI len)), some (.int 0), some (.int (nI q))] [] := by
    intro q hq
    refine v_iload hC rfl dX6_isName_34 (q := 36) rfl ?_
    refine v_iload_n hC rfl dX6_isName_36 (q := 37) rfl ?_
    refine v_icmp_ge hC dX6_isName_37 (t := 82) rfl (q := 40) rfl (fun h37 => ?_) (fun h37 => ?_)
    · refine v_iload_n hC rfl dX6_isName_82 (q := 83) rfl ?_
      refine hR _ _ _ _ ?_ (by first | rfl | decide | assumption) dX6_isName_83
      exact ⟨Or.inr ⟨hq, rfl⟩, rfl⟩
    · refine v_iload_n hC rfl dX6_isName_40 (q := 41) rfl ?_
      refine v_if_eq hC dX6_isName_41 (t := 82) rfl (q := 44) rfl (fun _ => ?_) (fun h => absurd h (by decide))
      refine v_iload_n hC rfl dX6_isName_82 (q := 83) rfl ?_
      refine hR _ _ _ _ ?_ (by first | rfl | decide | assumption) dX6_isName_83
      exact ⟨Or.inr ⟨hq, rfl⟩, rfl⟩
  have yes : (len ≤ 7 ∧ (len = 7 ∨ nmL.getD (7 * w + len) 0 = 0)) → ∀ q, q ≤ len → (∀ j, j < q → nmL.getD (7 * w + j) 0 = r 4 (s + j)) → V l X (rmk 0 0) C (hp X S (iv [a0, nI T, a2, nI s, a4, a5, a6], m, r, c)) 34 [some (.ref (ga X 47)), some (.int (nI w)), some (.int (nI len)), some (.int 1), some (.int (nI q))] [] := by
    intro hc0
    refine v_up len ?_ ?_
    · intro hI
      refine v_iload hC rfl dX6_isName_34 (q := 36) rfl ?_
      refine v_iload_n hC rfl dX6_isName_36 (q := 37) rfl ?_
      refine v_icmp_ge hC dX6_isName_37 (t := 82) rfl (q := 40) rfl (fun _ => ?_) (fun h => absurd (Int32.le_refl _) h)
      refine v_iload_n hC rfl dX6_isName_82 (q := 83) rfl ?_
      refine hR _ _ _ _ ?_ (by first | rfl | decide | assumption) dX6_isName_83
      exact ⟨Or.inl ⟨(nm_iff h1 h0 hl).mp ⟨hc0, hI⟩, rfl⟩, rfl⟩
    · intro j hj ih hI
      refine v_iload hC rfl dX6_isName_34 (q := 36) rfl ?_
      refine v_iload_n hC rfl dX6_isName_36 (q := 37) rfl ?_
      refine v_icmp_ge hC dX6_isName_37 (t := 82) rfl (q := 40) rfl (fun h => absurd h (nI_ge hj (by omega))) (fun _ => ?_)
      refine v_iload_n hC rfl dX6_isName_40 (q := 41) rfl ?_
      refine v_if_eq hC dX6_isName_41 (t := 82) rfl (q := 44) rfl (fun h => absurd h (by decide)) (fun _ => ?_)
      refine v_getNM hC wf_X6_151 dX6_isName_44 (q := 47) rfl ?_
      refine v_bipush hC (v := 7) rfl dX6_isName_47 (q := 49) rfl ?_
      refine v_iload_n hC rfl dX6_isName_49 (q := 50) rfl ?_
      refine v_imul hC dX6_isName_50 (q := 51) rfl ?_
      refine v_iload hC rfl dX6_isName_51 (q := 53) rfl ?_
      refine v_iadd hC dX6_isName_53 (q := 54) rfl ?_
      refine v_tNM hC (vp_l (ixN ⟨w, h1⟩ ⟨j, by omega⟩).1) (nm_at h1 (by omega)) dX6_isName_54 (q := 55) rfl ?_
      refine v_aload_n hC rfl dX6_isName_55 (q := 56) rfl ?_
      refine v_get hC fl_X6_22 (k := 47) (by decide) hp_47v rfl dX6_isName_56 (q := 59) rfl ?_
      refine v_aload_n hC rfl dX6_isName_59 (q := 60) rfl ?_
      refine v_get hC fl_X6_154 (k := 47) (by decide) hp_47v rfl dX6_isName_60 (q := 63) rfl ?_
      refine v_iload hC rfl dX6_isName_63 (q := 65) rfl ?_
      refine v_iadd hC dX6_isName_65 (q := 66) rfl ?_
      refine v_iald hC (k := 52) (by decide) hp_52 (by rw [nI_add]; exact ix120' (by omega)) (j := s + j) (by rw [nI_add]; exact nI_clamp (by omega)) dX6_isName_66 (q := 67) rfl ?_
      refine v_icmp_ne hC dX6_isName_67 (t := 74) rfl (q := 70) rfl (fun h67 => ?_) (fun h67 => ?_)
      · refine v_iconst hC (v := 0) rfl dX6_isName_74 (q := 75) rfl ?_
        refine v_istore_3 hC rfl dX6_isName_75 (q := 76) rfl ?_
        refine v_iinc_4 hC (v := _ + 1) rfl rfl dX6_isName_76 (q := 79) rfl ?_
        refine v_goto hC dX6_isName_79 (t := 34) rfl ?_
        refine v_same rfl ?_ rfl (no (j + 1) (fun z => h67 (((nm_iff h1 h0 hl).mpr z).2 j hj)))
        simp [nI_1]
      · refine v_iconst hC (v := 1) rfl dX6_isName_70 (q := 71) rfl ?_
        refine v_goto hC dX6_isName_71 (t := 75) rfl ?_
        refine v_istore_3 hC rfl dX6_isName_75 (q := 76) rfl ?_
        refine v_iinc_4 hC (v := _ + 1) rfl rfl dX6_isName_76 (q := 79) rfl ?_
        refine v_goto hC dX6_isName_79 (t := 34) rfl ?_
        refine v_same rfl ?_ rfl (ih (lt_s hI h67))
        simp [nI_1]
  refine v_iload_n hC rfl dX6_isName_0 (q := 1) rfl ?_
  refine v_bipush hC (v := 7) rfl dX6_isName_1 (q := 3) rfl ?_
  refine v_icmp_gt hC dX6_isName_3 (t := 29) rfl (q := 6) rfl (fun h3 => ?_) (fun h3 => ?_)
  · refine v_iconst hC (v := 0) rfl dX6_isName_29 (q := 30) rfl ?_
    refine v_istore_3 hC rfl dX6_isName_30 (q := 31) rfl ?_
    refine v_iconst hC (v := 0) rfl dX6_isName_31 (q := 32) rfl ?_
    refine v_istore_4 hC rfl dX6_isName_32 (q := 34) rfl ?_
    exact no 0 (fun z => absurd ((nI_leI (a := len) (b := 7) (by omega) (by decide)).mpr ((nm_iff h1 h0 hl).mpr z).1.1) (Int32.not_le.mpr h3))
  · refine v_iload_n hC rfl dX6_isName_6 (q := 7) rfl ?_
    refine v_bipush hC (v := 7) rfl dX6_isName_7 (q := 9) rfl ?_
    refine v_icmp_eq hC dX6_isName_9 (t := 25) rfl (q := 12) rfl (fun h9 => ?_) (fun h9 => ?_)
    · refine v_iconst hC (v := 1) rfl dX6_isName_25 (q := 26) rfl ?_
      refine v_goto hC dX6_isName_26 (t := 30) rfl ?_
      refine v_istore_3 hC rfl dX6_isName_30 (q := 31) rfl ?_
      refine v_iconst hC (v := 0) rfl dX6_isName_31 (q := 32) rfl ?_
      refine v_istore_4 hC rfl dX6_isName_32 (q := 34) rfl ?_
      have e7 : len = 7 := (nI_eq (b := 7) (by omega) (by decide)).mp h9
      exact yes ⟨by omega, Or.inl e7⟩ 0 (Nat.zero_le _) (fun j hj => absurd hj (Nat.not_lt_zero _))
    · have hlt : len < 7 := by
        have e1 := (nI_leI (a := len) (b := 7) (by omega) (by decide)).mp (Int32.not_lt.mp h3)
        have e2 : ¬ len = 7 := fun z => h9 (by rw [z]; rfl)
        omega
      refine v_getNM hC wf_X6_151 dX6_isName_12 (q := 15) rfl ?_
      refine v_bipush hC (v := 7) rfl dX6_isName_15 (q := 17) rfl ?_
      refine v_iload_n hC rfl dX6_isName_17 (q := 18) rfl ?_
      refine v_imul hC dX6_isName_18 (q := 19) rfl ?_
      refine v_iload_n hC rfl dX6_isName_19 (q := 20) rfl ?_
      refine v_iadd hC dX6_isName_20 (q := 21) rfl ?_
      refine v_tNM hC (vp_l (ixN ⟨w, h1⟩ ⟨len, hlt⟩).1) (nm_at h1 hlt) dX6_isName_21 (q := 22) rfl ?_
      refine v_if_ne hC dX6_isName_22 (t := 29) rfl (q := 25) rfl (fun h22 => ?_) (fun h22 => ?_)
      · refine v_iconst hC (v := 0) rfl dX6_isName_29 (q := 30) rfl ?_
        refine v_istore_3 hC rfl dX6_isName_30 (q := 31) rfl ?_
        refine v_iconst hC (v := 0) rfl dX6_isName_31 (q := 32) rfl ?_
        refine v_istore_4 hC rfl dX6_isName_32 (q := 34) rfl ?_
        exact no 0 (fun z => (((nm_iff h1 h0 hl).mpr z).1.2).elim (fun e => by omega) h22)
      · refine v_iconst hC (v := 1) rfl dX6_isName_25 (q := 26) rfl ?_
        refine v_goto hC dX6_isName_26 (t := 30) rfl ?_
        refine v_istore_3 hC rfl dX6_isName_30 (q := 31) rfl ?_
        refine v_iconst hC (v := 0) rfl dX6_isName_31 (q := 32) rfl ?_
        refine v_istore_4 hC rfl dX6_isName_32 (q := 34) rfl ?_
        exact yes ⟨by omega, Or.inr h22⟩ 0 (Nat.zero_le _) (fun j hj => absurd hj (Nat.not_lt_zero _))

theorem nI_ls (s len : Nat) : nI (s + len) - nI s = nI len := by rw [← nI_add, Int32.add_comm, Int32.add_sub_cancel]
set_option maxHeartbeats 4000000 in
set_option maxRecDepth 100000 in
theorem c_X6_wordHere {l : Launch} {X : Gx} {S : CS} {m : Nat → Int32} {r : Nat → Nat → Int32} {c : Nat → Int64} {a0 a2 a5 a6 : Int32} {T : Nat} (hT : T ≤ 120) {s len : Nat} (h0 : 0 < len) (hs : s + len ≤ T) (hl : ∀ k, k < len → r 4 (s + k) ≠ 0) : Ci l X yX6_wordHere cX6_wordHere 2 (some .int) (rmk 1 24) [.ref (ga X 47)] (hp X S (iv [a0, nI T, a2, nI s, nI (s + len), a5, a6], m, r, c)) (fun z g => z = wordF (r 4) s len ∧ g = hp X S (iv [a0, nI T, a2, nI s, nI (s + len), a5, a6], m, r, c)) := by
  refine ct_i (own := RX6) (lv := [some (.ref (ga X 47)), none]) (by decide) rfl (Nat.le_of_ble_eq_true rfl) (Nat.le_of_ble_eq_true rfl) rfl (fun C hC hR => ?_)
  have loop : ∀ j, j ≤ 11 → wdF (r 4) s len = fstN (mW (r 4) s len) (11 - j) j → V l X (rmk 1 24) C (hp X S (iv [a0, nI T, a2, nI s, nI (s + len), a5, a6], m, r, c)) 2 [some (.ref (ga X 47)), some (.int (nI j))] [] := by
    refine v_up 11 ?_ ?_
    · intro hI
      have hI : wdF (r 4) s len = none := hI
      refine v_iload_n hC rfl dX6_wordHere_2 (q := 3) rfl ?_
      refine v_bipush hC (v := 11) rfl dX6_wordHere_3 (q := 5) rfl ?_
      refine v_icmp_ge hC dX6_wordHere_5 (t := 31) rfl (q := 8) rfl (fun _ => ?_) (fun h => absurd (by decide) h)
      refine v_iload_n hC rfl dX6_wordHere_31 (q := 32) rfl ?_
      refine v_bipush hC (v := 11) rfl dX6_wordHere_32 (q := 34) rfl ?_
      refine v_icmp_ge hC dX6_wordHere_34 (t := 41) rfl (q := 37) rfl (fun _ => ?_) (fun h => absurd (by decide) h)
      refine v_bipush hC (v := 23) rfl dX6_wordHere_41 (q := 43) rfl ?_
      refine hR _ _ _ _ ?_ dX6_wordHere_43
      refine ⟨?_, rfl⟩
      rw [wordF, hI]
    · intro j hj ih hI
      rw [show 11 - j = (11 - (j + 1)) + 1 by omega, fstN] at hI
      refine v_iload_n hC rfl dX6_wordHere_2 (q := 3) rfl ?_
      refine v_bipush hC (v := 11) rfl dX6_wordHere_3 (q := 5) rfl ?_
      refine v_icmp_ge hC dX6_wordHere_5 (t := 31) rfl (q := 8) rfl (fun h => absurd h (nI_ge (b := 11) hj (by decide))) (fun _ => ?_)
      refine v_aload_n hC rfl dX6_wordHere_8 (q := 9) rfl ?_
      refine v_iload_n hC rfl dX6_wordHere_9 (q := 10) rfl ?_
      refine v_aload_n hC rfl dX6_wordHere_10 (q := 11) rfl ?_
      refine v_get hC fl_X6_157 (k := 47) (by decide) hp_47v rfl dX6_wordHere_11 (q := 14) rfl ?_
      refine v_aload_n hC rfl dX6_wordHere_14 (q := 15) rfl ?_
      refine v_get hC fl_X6_154 (k := 47) (by decide) hp_47v rfl dX6_wordHere_15 (q := 18) rfl ?_
      refine v_isub hC dX6_wordHere_18 (q := 19) rfl ?_
      rw [nI_ls s len]
      refine v_Vi hC lkV_X6_160 (c_X6_isName hT hj h0 hs hl) rfl (by decide) (k := 47) (by decide) hp_47 rfl rfl (Nat.le_of_ble_eq_true rfl) dX6_wordHere_19 (q := 22) rfl ?_
      rintro _ _ ⟨⟨hc19, rfl⟩ | ⟨hc19, rfl⟩, rfl⟩
      · refine v_if_ne hC dX6_wordHere_22 (t := 31) rfl (q := 25) rfl (fun _ => ?_) (fun h => absurd h (by decide))
        refine v_iload_n hC rfl dX6_wordHere_31 (q := 32) rfl ?_
        refine v_bipush hC (v := 11) rfl dX6_wordHere_32 (q := 34) rfl ?_
        refine v_icmp_ge hC dX6_wordHere_34 (t := 41) rfl (q := 37) rfl (fun h => absurd h (nI_ge (b := 11) hj (by decide))) (fun _ => ?_)
        refine v_iload_n hC rfl dX6_wordHere_37 (q := 38) rfl ?_
        refine v_goto hC dX6_wordHere_38 (t := 43) rfl ?_
        refine hR _ _ _ _ ?_ dX6_wordHere_43
        refine ⟨?_, rfl⟩
        rw [if_pos hc19] at hI
        rw [wordF, hI]
      · refine v_if_ne hC dX6_wordHere_22 (t := 31) rfl (q := 25) rfl (fun h => absurd h (by decide)) (fun _ => ?_)
        refine v_iinc_1 hC (v := _ + 1) rfl rfl dX6_wordHere_25 (q := 28) rfl ?_
        refine v_goto hC dX6_wordHere_28 (t := 2) rfl ?_
        refine v_same rfl ?_ rfl (ih ?_)
        · simp [nI_1]
        · rw [hI, if_neg hc19]
  refine v_iconst hC (v := 0) rfl dX6_wordHere_0 (q := 1) rfl ?_
  refine v_istore_1 hC rfl dX6_wordHere_1 (q := 2) rfl ?_
  exact loop 0 (by decide) (wdF_eq _ _ _)

set_option maxHeartbeats 4000000 in
set_option maxRecDepth 100000 in
theorem c_X6_reads {l : Launch} {X : Gx} {S : CS} {m : Nat → Int32} {r : Nat → Nat → Int32} {c : Nat → Int64} {a0 a2 a3 a5 a6 : Int32} {T : Nat} (hT : T ≤ 120) {p : Nat} (hp1 : p ≤ T) : Cv l X yX6_reads cX6_reads 1 (none) (rmk 2 46) [.ref (ga X 47)] (hp X S (iv [a0, nI T, a2, a3, nI p, a5, a6], m, r, c)) (fun g => g = hp X S (iv [a0, nI T, tkK (r 4) T p, nI (tkS (r 4) T p), nI (tkE (r 4) T p), tkV (r 4) T p, a6], m, r, c)) := by
  refine ct_v (own := RX6) (lv := [some (.ref (ga X 47))]) (by decide) rfl (Nat.le_of_ble_eq_true rfl) (Nat.le_of_ble_eq_true rfl) rfl (fun C hC hR => ?_)
  have hs := tkS_le (t := r 4) hp1
  have hsE : tkS (r 4) T p ≤ T := hs.2
  have lw : tkS (r 4) T p < T → isL (r 4) (tkS (r 4) T p) = true → V l X (rmk 2 46) C (hp X S (iv [a0, nI T, a2, nI (tkS (r 4) T p), nI (tkS (r 4) T p), 0, a6], m, r, c)) 76 [some (.ref (ga X 47))] [] := by
    intro hlt hL
    have hne : ¬ tkS (r 4) T p = T := by omega
    have hgt := enW_gt hlt hL
    have hle := enW_le (t := r 4) hsE
    have fin : V l X (rmk 2 46) C (hp X S (iv [a0, nI T, a2, nI (tkS (r 4) T p), nI (tkS (r 4) T p + (enW (r 4) T (tkS (r 4) T p) - tkS (r 4) T p)), 0, a6], m, r, c)) 104 [some (.ref (ga X 47))] [] := by
      refine v_aload_n hC rfl dX6_reads_104 (q := 105) rfl ?_
      refine v_aload_n hC rfl dX6_reads_105 (q := 106) rfl ?_
      refine v_Vi hC lkV_X6_173 (c_X6_wordHere hT (by omega) (by omega) (fun k hk => by have := skF_in (b := isL (r 4)) (T - tkS (r 4) T p) (tkS (r 4) T p) (tkS (r 4) T p + k) (by omega) (show _ < enW (r 4) T (tkS (r 4) T p) by omega); intro z; rw [isL, z] at this; exact absurd this (by decide))) rfl (by decide) (k := 47) (by decide) hp_47 rfl rfl (Nat.le_of_ble_eq_true rfl) dX6_reads_106 (q := 109) rfl ?_
      rintro _ _ ⟨rfl, rfl⟩
      refine v_put hC fl_X6_170 pt_5_7 (k := 47) (by decide) hp_47v (Nat.le_of_ble_eq_true rfl) rfl rfl (hpv_2 _) dX6_reads_109 (q := 112) rfl ?_
      refine v_goto hC dX6_reads_112 (t := 244) rfl ?_
      refine hR _ _ _ ?_ dX6_reads_244
      refine congrArg (fun z => hp X S (iv z, m, r, c)) ?_
      rw [show tkS (r 4) T p + (enW (r 4) T (tkS (r 4) T p) - tkS (r 4) T p) = enW (r 4) T (tkS (r 4) T p) by omega]
      simp [tkK, tkE, tkV, hne, hL]
    have loop : ∀ q, q ≤ T → tkS (r 4) T p ≤ q → enW (r 4) T (tkS (r 4) T p) = skF (isL (r 4)) (T - q) q → V l X (rmk 2 46) C (hp X S (iv [a0, nI T, a2, nI (tkS (r 4) T p), nI q, 0, a6], m, r, c)) 76 [some (.ref (ga X 47))] [] := by
      refine v_up T ?_ ?_
      · intro hq hI
        rw [Nat.sub_self, skF] at hI
        refine v_aload_n hC rfl dX6_reads_76 (q := 77) rfl ?_
        refine v_aload_n hC rfl dX6_reads_77 (q := 78) rfl ?_
        refine v_get hC fl_X6_157 (k := 47) (by decide) hp_47v rfl dX6_reads_78 (q := 81) rfl ?_
        refine v_bipush hC (v := 97) rfl dX6_reads_81 (q := 83) rfl ?_
        refine v_bipush hC (v := 122) rfl dX6_reads_83 (q := 85) rfl ?_
        refine v_Vi hC lkV_X6_163 (c_X6_isByte hT (by omega)) rfl (by decide) (k := 47) (by decide) hp_47 rfl rfl (Nat.le_of_ble_eq_true rfl) dX6_reads_85 (q := 88) rfl ?_
        rintro _ _ ⟨⟨hc85, rfl⟩ | ⟨hc85, rfl⟩, rfl⟩
        · exact absurd hc85.1 (by omega)
        · refine v_if_eq hC dX6_reads_88 (t := 104) rfl (q := 91) rfl (fun _ => ?_) (fun h => absurd h (by decide))
          refine v_same ?_ rfl rfl fin
          rw [show tkS (r 4) T p + (enW (r 4) T (tkS (r 4) T p) - tkS (r 4) T p) = T by omega]
      · intro q hj ih hq hI
        rw [show T - q = (T - (q + 1)) + 1 by omega, skF] at hI
        refine v_aload_n hC rfl dX6_reads_76 (q := 77) rfl ?_
        refine v_aload_n hC rfl dX6_reads_77 (q := 78) rfl ?_
        refine v_get hC fl_X6_157 (k := 47) (by decide) hp_47v rfl dX6_reads_78 (q := 81) rfl ?_
        refine v_bipush hC (v := 97) rfl dX6_reads_81 (q := 83) rfl ?_
        refine v_bipush hC (v := 122) rfl dX6_reads_83 (q := 85) rfl ?_
        refine v_Vi hC lkV_X6_163 (c_X6_isByte hT (by omega)) rfl (by decide) (k := 47) (by decide) hp_47 rfl rfl (Nat.le_of_ble_eq_true rfl) dX6_reads_85 (q := 88) rfl ?_
        rintro _ _ ⟨⟨hc85, rfl⟩ | ⟨hc85, rfl⟩, rfl⟩
        · refine v_if_eq hC dX6_reads_88 (t := 104) rfl (q := 91) rfl (fun h => absurd h (by decide)) (fun _ => ?_)
          refine v_aload_n hC rfl dX6_reads_91 (q := 92) rfl ?_
          refine v_dup hC rfl dX6_reads_92 (q := 93) rfl ?_
          refine v_get hC fl_X6_157 (k := 47) (by decide) hp_47v rfl dX6_reads_93 (q := 96) rfl ?_
          refine v_iconst hC (v := 1) rfl dX6_reads_96 (q := 97) rfl ?_
          refine v_iadd hC dX6_reads_97 (q := 98) rfl ?_
          refine v_put hC fl_X6_157 pt_5_9 (k := 47) (by decide) hp_47v (Nat.le_of_ble_eq_true rfl) rfl rfl (hpv_4 _) dX6_reads_98 (q := 101) rfl ?_
          refine v_goto hC dX6_reads_101 (t := 76) rfl ?_
          have hb : isL (r 4) q = true := decide_eq_true hc85.2
          rw [if_pos hb] at hI
          rw [nI_1]
          exact ih (by omega) hI
        · refine v_if_eq hC dX6_reads_88 (t := 104) rfl (q := 91) rfl (fun _ => ?_) (fun h => absurd h (by decide))
          have hb : ¬ isL (r 4) q = true := fun z => hc85 ⟨hj, of_decide_eq_true z⟩
          rw [if_neg hb] at hI
          refine v_same ?_ rfl rfl fin
          rw [show tkS (r 4) T p + (enW (r 4) T (tkS (r 4) T p) - tkS (r 4) T p) = q by omega]
    exact loop _ hsE (Nat.le_refl _) rfl
  have ld : tkS (r 4) T p < T → ¬ isL (r 4) (tkS (r 4) T p) = true → isD (r 4) (tkS (r 4) T p) = true → V l X (rmk 2 46) C (hp X S (iv [a0, nI T, a2, nI (tkS (r 4) T p), nI (tkS (r 4) T p), 0, a6], m, r, c)) 130 [some (.ref (ga X 47))] [] := by
    intro hlt hL hD
    have hne : ¬ tkS (r 4) T p = T := by omega
    have hle := enD_le (t := r 4) hsE
    have fin : V l X (rmk 2 46) C (hp X S (iv [a0, nI T, a2, nI (tkS (r 4) T p), nI (enD (r 4) T (tkS (r 4) T p)), valF (r 4) (tkS (r 4) T p) (enD (r 4) T (tkS (r 4) T p) - tkS (r 4) T p), a6], m, r, c)) 199 [some (.ref (ga X 47))] [] := by
      refine v_aload_n hC rfl dX6_reads_199 (q := 200) rfl ?_
      refine v_bipush hC (v := 20) rfl dX6_reads_200 (q := 202) rfl ?_
      refine v_put hC fl_X6_170 pt_5_7 (k := 47) (by decide) hp_47v (Nat.le_of_ble_eq_true rfl) rfl rfl (hpv_2 _) dX6_reads_202 (q := 205) rfl ?_
      refine v_goto hC dX6_reads_205 (t := 244) rfl ?_
      refine hR _ _ _ ?_ dX6_reads_244
      refine congrArg (fun z => hp X S (iv z, m, r, c)) ?_
      simp [tkK, tkE, tkV, hne, hL, hD]
    have loop : ∀ q, q ≤ T → tkS (r 4) T p ≤ q → enD (r 4) T (tkS (r 4) T p) = skF (isD (r 4)) (T - q) q → V l X (rmk 2 46) C (hp X S (iv [a0, nI T, a2, nI (tkS (r 4) T p), nI q, valF (r 4) (tkS (r 4) T p) (q - tkS (r 4) T p), a6], m, r, c)) 130 [some (.ref (ga X 47))] [] := by
      refine v_up T ?_ ?_
      · intro hq hI
        rw [Nat.sub_self, skF] at hI
        refine v_aload_n hC rfl dX6_reads_130 (q := 131) rfl ?_
        refine v_aload_n hC rfl dX6_reads_131 (q := 132) rfl ?_
        refine v_get hC fl_X6_157 (k := 47) (by decide) hp_47v rfl dX6_reads_132 (q := 135) rfl ?_
        refine v_bipush hC (v := 48) rfl dX6_reads_135 (q := 137) rfl ?_
        refine v_bipush hC (v := 57) rfl dX6_reads_137 (q := 139) rfl ?_
        refine v_Vi hC lkV_X6_163 (c_X6_isByte hT (by omega)) rfl (by decide) (k := 47) (by decide) hp_47 rfl rfl (Nat.le_of_ble_eq_true rfl) dX6_reads_139 (q := 142) rfl ?_
        rintro _ _ ⟨⟨hc139, rfl⟩ | ⟨hc139, rfl⟩, rfl⟩
        · exact absurd hc139.1 (by omega)
        · refine v_if_eq hC dX6_reads_142 (t := 199) rfl (q := 145) rfl (fun _ => ?_) (fun h => absurd h (by decide))
          rw [hI] at fin
          exact fin
      · intro q hj ih hq hI
        rw [show T - q = (T - (q + 1)) + 1 by omega, skF] at hI
        refine v_aload_n hC rfl dX6_reads_130 (q := 131) rfl ?_
        refine v_aload_n hC rfl dX6_reads_131 (q := 132) rfl ?_
        refine v_get hC fl_X6_157 (k := 47) (by decide) hp_47v rfl dX6_reads_132 (q := 135) rfl ?_
        refine v_bipush hC (v := 48) rfl dX6_reads_135 (q := 137) rfl ?_
        refine v_bipush hC (v := 57) rfl dX6_reads_137 (q := 139) rfl ?_
        refine v_Vi hC lkV_X6_163 (c_X6_isByte hT (by omega)) rfl (by decide) (k := 47) (by decide) hp_47 rfl rfl (Nat.le_of_ble_eq_true rfl) dX6_reads_139 (q := 142) rfl ?_
        rintro _ _ ⟨⟨hc139, rfl⟩ | ⟨hc139, rfl⟩, rfl⟩
        · refine v_if_eq hC dX6_reads_142 (t := 199) rfl (q := 145) rfl (fun h => absurd h (by decide)) (fun _ => ?_)
          refine v_aload_n hC rfl dX6_reads_145 (q := 146) rfl ?_
          refine v_aload_n hC rfl dX6_reads_146 (q := 147) rfl ?_
          refine v_get hC fl_X6_167 (k := 47) (by decide) hp_47v rfl dX6_reads_147 (q := 150) rfl ?_
          refine v_sipush hC (v := 999) rfl dX6_reads_150 (q := 153) rfl ?_
          refine v_icmp_le hC dX6_reads_153 (t := 163) rfl (q := 156) rfl (fun h153 => ?_) (fun h153 => ?_)
          · refine v_bipush hC (v := 10) rfl dX6_reads_163 (q := 165) rfl ?_
            refine v_aload_n hC rfl dX6_reads_165 (q := 166) rfl ?_
            refine v_get hC fl_X6_167 (k := 47) (by decide) hp_47v rfl dX6_reads_166 (q := 169) rfl ?_
            refine v_imul hC dX6_reads_169 (q := 170) rfl ?_
            refine v_aload_n hC rfl dX6_reads_170 (q := 171) rfl ?_
            refine v_get hC fl_X6_22 (k := 47) (by decide) hp_47v rfl dX6_reads_171 (q := 174) rfl ?_
            refine v_aload_n hC rfl dX6_reads_174 (q := 175) rfl ?_
            refine v_get hC fl_X6_157 (k := 47) (by decide) hp_47v rfl dX6_reads_175 (q := 178) rfl ?_
            refine v_iald hC (k := 52) (by decide) hp_52 (ix120' (by omega)) (j := q) (nI_clamp (by omega)) dX6_reads_178 (q := 179) rfl ?_
            refine v_iadd hC dX6_reads_179 (q := 180) rfl ?_
            refine v_bipush hC (v := 48) rfl dX6_reads_180 (q := 182) rfl ?_
            refine v_isub hC dX6_reads_182 (q := 183) rfl ?_
            refine v_put hC fl_X6_167 pt_5_10 (k := 47) (by decide) hp_47v (Nat.le_of_ble_eq_true rfl) rfl rfl (hpv_5 _) dX6_reads_183 (q := 186) rfl ?_
            refine v_aload_n hC rfl dX6_reads_186 (q := 187) rfl ?_
            refine v_dup hC rfl dX6_reads_187 (q := 188) rfl ?_
            refine v_get hC fl_X6_157 (k := 47) (by decide) hp_47v rfl dX6_reads_188 (q := 191) rfl ?_
            refine v_iconst hC (v := 1) rfl dX6_reads_191 (q := 192) rfl ?_
            refine v_iadd hC dX6_reads_192 (q := 193) rfl ?_
            refine v_put hC fl_X6_157 pt_5_9 (k := 47) (by decide) hp_47v (Nat.le_of_ble_eq_true rfl) rfl rfl (hpv_4 _) dX6_reads_193 (q := 196) rfl ?_
            refine v_goto hC dX6_reads_196 (t := 130) rfl ?_
            have hb : isD (r 4) q = true := decide_eq_true hc139.2
            rw [if_pos hb] at hI
            rw [nI_1]
            refine v_same ?_ rfl rfl (ih (by omega) hI)
            rw [show q + 1 - tkS (r 4) T p = (q - tkS (r 4) T p) + 1 by omega, valF, if_neg (Int32.not_lt.mpr h153), show tkS (r 4) T p + (q - tkS (r 4) T p) = q by omega]
          · refine v_aload_n hC rfl dX6_reads_156 (q := 157) rfl ?_
            refine v_get hC fl_X6_167 (k := 47) (by decide) hp_47v rfl dX6_reads_157 (q := 160) rfl ?_
            refine v_goto hC dX6_reads_160 (t := 183) rfl ?_
            refine v_put hC fl_X6_167 pt_5_10 (k := 47) (by decide) hp_47v (Nat.le_of_ble_eq_true rfl) rfl rfl (hpv_5 _) dX6_reads_183 (q := 186) rfl ?_
            refine v_aload_n hC rfl dX6_reads_186 (q := 187) rfl ?_
            refine v_dup hC rfl dX6_reads_187 (q := 188) rfl ?_
            refine v_get hC fl_X6_157 (k := 47) (by decide) hp_47v rfl dX6_reads_188 (q := 191) rfl ?_
            refine v_iconst hC (v := 1) rfl dX6_reads_191 (q := 192) rfl ?_
            refine v_iadd hC dX6_reads_192 (q := 193) rfl ?_
            refine v_put hC fl_X6_157 pt_5_9 (k := 47) (by decide) hp_47v (Nat.le_of_ble_eq_true rfl) rfl rfl (hpv_4 _) dX6_reads_193 (q := 196) rfl ?_
            refine v_goto hC dX6_reads_196 (t := 130) rfl ?_
            have hb : isD (r 4) q = true := decide_eq_true hc139.2
            rw [if_pos hb] at hI
            rw [nI_1]
            refine v_same ?_ rfl rfl (ih (by omega) hI)
            rw [show q + 1 - tkS (r 4) T p = (q - tkS (r 4) T p) + 1 by omega, valF, if_pos (Int32.not_le.mp h153)]
        · refine v_if_eq hC dX6_reads_142 (t := 199) rfl (q := 145) rfl (fun _ => ?_) (fun h => absurd h (by decide))
          have hb : ¬ isD (r 4) q = true := fun z => hc139 ⟨hj, of_decide_eq_true z⟩
          rw [if_neg hb] at hI
          rw [hI] at fin
          exact fin
    have := loop _ hsE (Nat.le_refl _) rfl
    rw [Nat.sub_self] at this
    exact this
  have after : V l X (rmk 2 46) C (hp X S (iv [a0, nI T, a2, a3, nI (tkS (r 4) T p), a5, a6], m, r, c)) 28 [some (.ref (ga X 47))] [] := by
    refine v_aload_n hC rfl dX6_reads_28 (q := 29) rfl ?_
    refine v_aload_n hC rfl dX6_reads_29 (q := 30) rfl ?_
    refine v_get hC fl_X6_157 (k := 47) (by decide) hp_47v rfl dX6_reads_30 (q := 33) rfl ?_
    refine v_put hC fl_X6_154 pt_5_8 (k := 47) (by decide) hp_47v (Nat.le_of_ble_eq_true rfl) rfl rfl (hpv_3 _) dX6_reads_33 (q := 36) rfl ?_
    refine v_aload_n hC rfl dX6_reads_36 (q := 37) rfl ?_
    refine v_iconst hC (v := 0) rfl dX6_reads_37 (q := 38) rfl ?_
    refine v_put hC fl_X6_167 pt_5_10 (k := 47) (by decide) hp_47v (Nat.le_of_ble_eq_true rfl) rfl rfl (hpv_5 _) dX6_reads_38 (q := 41) rfl ?_
    refine v_aload_n hC rfl dX6_reads_41 (q := 42) rfl ?_
    refine v_get hC fl_X6_157 (k := 47) (by decide) hp_47v rfl dX6_reads_42 (q := 45) rfl ?_
    refine v_aload_n hC rfl dX6_reads_45 (q := 46) rfl ?_
    refine v_get hC fl_X6_147 (k := 47) (by decide) hp_47v rfl dX6_reads_46 (q := 49) rfl ?_
    refine v_icmp_ne hC dX6_reads_49 (t := 61) rfl (q := 52) rfl (fun h49 => ?_) (fun h49 => ?_)
    · refine v_aload_n hC rfl dX6_reads_61 (q := 62) rfl ?_
      refine v_aload_n hC rfl dX6_reads_62 (q := 63) rfl ?_
      refine v_get hC fl_X6_157 (k := 47) (by decide) hp_47v rfl dX6_reads_63 (q := 66) rfl ?_
      refine v_bipush hC (v := 97) rfl dX6_reads_66 (q := 68) rfl ?_
      refine v_bipush hC (v := 122) rfl dX6_reads_68 (q := 70) rfl ?_
      refine v_Vi hC lkV_X6_163 (c_X6_isByte hT (by omega)) rfl (by decide) (k := 47) (by decide) hp_47 rfl rfl (Nat.le_of_ble_eq_true rfl) dX6_reads_70 (q := 73) rfl ?_
      rintro _ _ ⟨⟨hc70, rfl⟩ | ⟨hc70, rfl⟩, rfl⟩
      · refine v_if_eq hC dX6_reads_73 (t := 115) rfl (q := 76) rfl (fun h => absurd h (by decide)) (fun _ => ?_)
        exact lw hc70.1 (decide_eq_true hc70.2)
      · refine v_if_eq hC dX6_reads_73 (t := 115) rfl (q := 76) rfl (fun _ => ?_) (fun h => absurd h (by decide))
        refine v_aload_n hC rfl dX6_reads_115 (q := 116) rfl ?_
        refine v_aload_n hC rfl dX6_reads_116 (q := 117) rfl ?_
        refine v_get hC fl_X6_157 (k := 47) (by decide) hp_47v rfl dX6_reads_117 (q := 120) rfl ?_
        refine v_bipush hC (v := 48) rfl dX6_reads_120 (q := 122) rfl ?_
        refine v_bipush hC (v := 57) rfl dX6_reads_122 (q := 124) rfl ?_
        refine v_Vi hC lkV_X6_163 (c_X6_isByte hT (by omega)) rfl (by decide) (k := 47) (by decide) hp_47 rfl rfl (Nat.le_of_ble_eq_true rfl) dX6_reads_124 (q := 127) rfl ?_
        rintro _ _ ⟨⟨hc124, rfl⟩ | ⟨hc124, rfl⟩, rfl⟩
        · refine v_if_eq hC dX6_reads_127 (t := 208) rfl (q := 130) rfl (fun h => absurd h (by decide)) (fun _ => ?_)
          exact ld hc124.1 (fun z => hc70 ⟨hc124.1, of_decide_eq_true z⟩) (decide_eq_true hc124.2)
        · refine v_if_eq hC dX6_reads_127 (t := 208) rfl (q := 130) rfl (fun _ => ?_) (fun h => absurd h (by decide))
          refine v_aload_n hC rfl dX6_reads_208 (q := 209) rfl ?_
          refine v_aload_n hC rfl dX6_reads_209 (q := 210) rfl ?_
          refine v_aload_n hC rfl dX6_reads_210 (q := 211) rfl ?_
          refine v_get hC fl_X6_157 (k := 47) (by decide) hp_47v rfl dX6_reads_211 (q := 214) rfl ?_
          refine v_bipush hC (v := 59) rfl dX6_reads_214 (q := 216) rfl ?_
          refine v_bipush hC (v := 59) rfl dX6_reads_216 (q := 218) rfl ?_
          refine v_Vi hC lkV_X6_163 (c_X6_isByte hT (by omega)) rfl (by decide) (k := 47) (by decide) hp_47 rfl rfl (Nat.le_of_ble_eq_true rfl) dX6_reads_218 (q := 221) rfl ?_
          rintro _ _ ⟨⟨hc218, rfl⟩ | ⟨hc218, rfl⟩, rfl⟩
          · refine v_if_eq hC dX6_reads_221 (t := 229) rfl (q := 224) rfl (fun h => absurd h (by decide)) (fun _ => ?_)
            refine v_bipush hC (v := 21) rfl dX6_reads_224 (q := 226) rfl ?_
            refine v_goto hC dX6_reads_226 (t := 231) rfl ?_
            refine v_put hC fl_X6_170 pt_5_7 (k := 47) (by decide) hp_47v (Nat.le_of_ble_eq_true rfl) rfl rfl (hpv_2 _) dX6_reads_231 (q := 234) rfl ?_
            refine v_aload_n hC rfl dX6_reads_234 (q := 235) rfl ?_
            refine v_dup hC rfl dX6_reads_235 (q := 236) rfl ?_
            refine v_get hC fl_X6_157 (k := 47) (by decide) hp_47v rfl dX6_reads_236 (q := 239) rfl ?_
            refine v_iconst hC (v := 1) rfl dX6_reads_239 (q := 240) rfl ?_
            refine v_iadd hC dX6_reads_240 (q := 241) rfl ?_
            refine v_put hC fl_X6_157 pt_5_9 (k := 47) (by decide) hp_47v (Nat.le_of_ble_eq_true rfl) rfl rfl (hpv_4 _) dX6_reads_241 (q := 244) rfl ?_
            refine hR _ _ _ ?_ dX6_reads_244
            have e : ¬ tkS (r 4) T p = T := fun z => h49 (by rw [z])
            have hL : ¬ isL (r 4) (tkS (r 4) T p) = true := fun z => hc70 ⟨by omega, of_decide_eq_true z⟩
            have hD : ¬ isD (r 4) (tkS (r 4) T p) = true := fun z => hc124 ⟨by omega, of_decide_eq_true z⟩
            refine congrArg (fun z => hp X S (iv z, m, r, c)) ?_
            have h59 := hc218.2
            simp [tkK, tkE, tkV, e, hL, hD, nI_1, h59]
          · refine v_if_eq hC dX6_reads_221 (t := 229) rfl (q := 224) rfl (fun _ => ?_) (fun h => absurd h (by decide))
            refine v_bipush hC (v := 23) rfl dX6_reads_229 (q := 231) rfl ?_
            refine v_put hC fl_X6_170 pt_5_7 (k := 47) (by decide) hp_47v (Nat.le_of_ble_eq_true rfl) rfl rfl (hpv_2 _) dX6_reads_231 (q := 234) rfl ?_
            refine v_aload_n hC rfl dX6_reads_234 (q := 235) rfl ?_
            refine v_dup hC rfl dX6_reads_235 (q := 236) rfl ?_
            refine v_get hC fl_X6_157 (k := 47) (by decide) hp_47v rfl dX6_reads_236 (q := 239) rfl ?_
            refine v_iconst hC (v := 1) rfl dX6_reads_239 (q := 240) rfl ?_
            refine v_iadd hC dX6_reads_240 (q := 241) rfl ?_
            refine v_put hC fl_X6_157 pt_5_9 (k := 47) (by decide) hp_47v (Nat.le_of_ble_eq_true rfl) rfl rfl (hpv_4 _) dX6_reads_241 (q := 244) rfl ?_
            refine hR _ _ _ ?_ dX6_reads_244
            have e : ¬ tkS (r 4) T p = T := fun z => h49 (by rw [z])
            have hL : ¬ isL (r 4) (tkS (r 4) T p) = true := fun z => hc70 ⟨by omega, of_decide_eq_true z⟩
            have hD : ¬ isD (r 4) (tkS (r 4) T p) = true := fun z => hc124 ⟨by omega, of_decide_eq_true z⟩
            refine congrArg (fun z => hp X S (iv z, m, r, c)) ?_
            have h59 : ¬ (59 ≤ r 4 (tkS (r 4) T p) ∧ r 4 (tkS (r 4) T p) ≤ 59) := fun z => hc218 ⟨by omega, z⟩
            simp only [tkK, tkE, tkV, if_neg e, if_neg hL, if_neg hD, if_neg h59, nI_1]
    · refine v_aload_n hC rfl dX6_reads_52 (q := 53) rfl ?_
      refine v_bipush hC (v := 22) rfl dX6_reads_53 (q := 55) rfl ?_
      refine v_put hC fl_X6_170 pt_5_7 (k := 47) (by decide) hp_47v (Nat.le_of_ble_eq_true rfl) rfl rfl (hpv_2 _) dX6_reads_55 (q := 58) rfl ?_
      refine v_goto hC dX6_reads_58 (t := 244) rfl ?_
      refine hR _ _ _ ?_ dX6_reads_244
      have e : tkS (r 4) T p = T := (nI_eq (by omega) (by omega)).mp h49
      refine congrArg (fun z => hp X S (iv z, m, r, c)) ?_
      simp [tkK, tkE, tkV, e]
  have loop : ∀ q, q ≤ T → p ≤ q → tkS (r 4) T p = skF (isB (r 4)) (T - q) q → V l X (rmk 2 46) C (hp X S (iv [a0, nI T, a2, a3, nI q, a5, a6], m, r, c)) 0 [some (.ref (ga X 47))] [] := by
    refine v_up T ?_ ?_
    · intro hq hI
      rw [Nat.sub_self, skF] at hI
      refine v_aload_n hC rfl dX6_reads_0 (q := 1) rfl ?_
      refine v_aload_n hC rfl dX6_reads_1 (q := 2) rfl ?_
      refine v_get hC fl_X6_157 (k := 47) (by decide) hp_47v rfl dX6_reads_2 (q := 5) rfl ?_
      refine v_bipush hC (v := 32) rfl dX6_reads_5 (q := 7) rfl ?_
      refine v_bipush hC (v := 32) rfl dX6_reads_7 (q := 9) rfl ?_
      refine v_Vi hC lkV_X6_163 (c_X6_isByte hT (by omega)) rfl (by decide) (k := 47) (by decide) hp_47 rfl rfl (Nat.le_of_ble_eq_true rfl) dX6_reads_9 (q := 12) rfl ?_
      rintro _ _ ⟨⟨hc9, rfl⟩ | ⟨hc9, rfl⟩, rfl⟩
      · exact absurd hc9.1 (by omega)
      · refine v_if_eq hC dX6_reads_12 (t := 28) rfl (q := 15) rfl (fun _ => ?_) (fun h => absurd h (by decide))
        rw [hI] at after
        exact after
    · intro q hj ih hq hI
      rw [show T - q = (T - (q + 1)) + 1 by omega, skF] at hI
      refine v_aload_n hC rfl dX6_reads_0 (q := 1) rfl ?_
      refine v_aload_n hC rfl dX6_reads_1 (q := 2) rfl ?_
      refine v_get hC fl_X6_157 (k := 47) (by decide) hp_47v rfl dX6_reads_2 (q := 5) rfl ?_
      refine v_bipush hC (v := 32) rfl dX6_reads_5 (q := 7) rfl ?_
      refine v_bipush hC (v := 32) rfl dX6_reads_7 (q := 9) rfl ?_
      refine v_Vi hC lkV_X6_163 (c_X6_isByte hT (by omega)) rfl (by decide) (k := 47) (by decide) hp_47 rfl rfl (Nat.le_of_ble_eq_true rfl) dX6_reads_9 (q := 12) rfl ?_
      rintro _ _ ⟨⟨hc9, rfl⟩ | ⟨hc9, rfl⟩, rfl⟩
      · refine v_if_eq hC dX6_reads_12 (t := 28) rfl (q := 15) rfl (fun h => absurd h (by decide)) (fun _ => ?_)
        refine v_aload_n hC rfl dX6_reads_15 (q := 16) rfl ?_
        refine v_dup hC rfl dX6_reads_16 (q := 17) rfl ?_
        refine v_get hC fl_X6_157 (k := 47) (by decide) hp_47v rfl dX6_reads_17 (q := 20) rfl ?_
        refine v_iconst hC (v := 1) rfl dX6_reads_20 (q := 21) rfl ?_
        refine v_iadd hC dX6_reads_21 (q := 22) rfl ?_
        refine v_put hC fl_X6_157 pt_5_9 (k := 47) (by decide) hp_47v (Nat.le_of_ble_eq_true rfl) rfl rfl (hpv_4 _) dX6_reads_22 (q := 25) rfl ?_
        refine v_goto hC dX6_reads_25 (t := 0) rfl ?_
        have hb : isB (r 4) q = true := decide_eq_true hc9.2
        rw [if_pos hb] at hI
        rw [nI_1]
        exact ih (by omega) hI
      · refine v_if_eq hC dX6_reads_12 (t := 28) rfl (q := 15) rfl (fun _ => ?_) (fun h => absurd h (by decide))
        have hb : ¬ isB (r 4) q = true := fun z => hc9 ⟨hj, of_decide_eq_true z⟩
        rw [if_neg hb] at hI
        rw [hI] at after
        exact after
  exact loop p hp1 (Nat.le_refl _) rfl
