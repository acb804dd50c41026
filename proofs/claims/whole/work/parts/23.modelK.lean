def bkC (e : Nat → Int64) (c : Nat → Int64) (Q j : Nat) : Nat → Int64 := fun x => if 40 * Q ≤ x ∧ x < 40 * Q + j then e (x - 40 * Q) else c x
theorem bkC_s (e c : Nat → Int64) (Q k : Nat) : vp_updL (bkC e c Q k) (40 * Q + k) (e k) = bkC e c Q (k + 1) := by
  funext j
  simp only [vp_updL, bkC]
  by_cases h : j = 40 * Q + k
  · rw [if_pos h, if_pos (by omega), show j - 40 * Q = k by omega]
  · rw [if_neg h]
    by_cases h2 : 40 * Q ≤ j ∧ j < 40 * Q + k
    · rw [if_pos h2, if_pos (by omega)]
    · rw [if_neg h2, if_neg (by omega)]
theorem bkC_0 (e c : Nat → Int64) (Q : Nat) : bkC e c Q 0 = c := by
  funext j
  simp only [bkC]
  rw [if_neg (by omega)]
def bkE (b : Int32) (k : Int32) (v : Nat → Int32) (j : Nat) : Int64 := cutF b (itD k v j 1).toInt64
def S_book (bt sz : Nat → Int32) (n : Nat) (s p : Int32) : An := match nA bt n s p with
  | .inl k => .inl k
  | .inr (Q, _) => .inr (sz Q)
def C_book (bt sz : Nat → Int32) (g : Nat → Nat → Int32) (c : Nat → Int64) (n : Nat) (s p : Int32) : Nat → Int64 := match nA bt n s p with
  | .inl _ => c
  | .inr (Q, P) => bkC (bkE (bt Q) (nI P) (g P)) c Q (sz Q).toNatClampNeg
set_option maxHeartbeats 4000000 in
set_option maxRecDepth 100000 in
theorem c_X6_book {l : Launch} {X : Gx} {S : CS} {i m : Nat → Int32} {r : Nat → Nat → Int32} {c : Nat → Int64} {n : Nat} (hN : m 1 = nI n) (h8 : n ≤ 8) (hZ : szOK (r 6)) {s p : Int32} : Ci l X yX6_book cX6_book 5 (some .int) (rmk 5 115) [.ref (ga X 47), .int s, .int p] (hp X S (i, m, r, c)) (fun z g => z = ansI (S_book (r 5) (r 6) n s p) ∧ ∃ W, g = hp X S (i, m, fnR (va_up r 2 W) (S_book (r 5) (r 6) n s p), C_book (r 5) (r 6) (pv m) c n s p)) := by
  refine ct_i (own := RX6) (lv := [some (.ref (ga X 47)), some (.int s), some (.int p), none, none]) (by decide) rfl (Nat.le_of_ble_eq_true rfl) (Nat.le_of_ble_eq_true rfl) rfl (fun C hC hR => ?_)
  cases e : nA (r 5) n s p with
  | inl k =>
    have hk := nA_lt e
    have h0 := fnd_ne ⟨k, hk⟩
    refine v_aload_n hC rfl dX6_book_0 (q := 1) rfl ?_
    refine v_iload_n hC rfl dX6_book_1 (q := 2) rfl ?_
    refine v_iload_n hC rfl dX6_book_2 (q := 3) rfl ?_
    refine v_Vi hC lkV_X6_218 (c_X6_notAsked hN h8) rfl (by decide) (k := 47) (by decide) hp_47 rfl rfl (Nat.le_of_ble_eq_true rfl) dX6_book_3 (q := 6) rfl ?_
    rintro _ _ ⟨rfl, rfl⟩
    rw [e, whyA]
    refine v_istore_3 hC rfl dX6_book_6 (q := 7) rfl ?_
    refine v_iload_n hC rfl dX6_book_7 (q := 8) rfl ?_
    refine v_if_eq hC dX6_book_8 (t := 17) rfl (q := 11) rfl (fun h => absurd h h0) (fun _ => ?_)
    refine v_aload_n hC rfl dX6_book_11 (q := 12) rfl ?_
    refine v_iload_n hC rfl dX6_book_12 (q := 13) rfl ?_
    refine v_Vi hC lkV_X6_37 (c_X6_finds hk) rfl (by decide) (k := 47) (by decide) hp_47 rfl rfl (Nat.le_of_ble_eq_true rfl) dX6_book_13 (q := 16) rfl ?_
    rintro _ _ ⟨rfl, rfl⟩
    refine hR _ _ _ _ ?_ dX6_book_16
    exact ⟨by simp only [S_book, e, ansI], r 2, by simp only [S_book, C_book, e, fnR, up_id]⟩
  | inr x =>
    obtain ⟨Q, P⟩ := x
    obtain ⟨hQ, rfl, hb, hP, rfl⟩ := nA_ok h8 e
    obtain ⟨z, hz, hsz⟩ := hZ Q hQ
    have hzc : (r 6 Q).toNatClampNeg = z := by rw [hsz]; exact nI_clamp (by omega)
    have hP8 : P < 8 := by omega
    have r6 : va_up r 2 m 6 = r 6 := va_up_ne _ _ (by decide)
    have r5 : va_up r 2 m 5 = r 5 := va_up_ne _ _ (by decide)
    have e1 : ∀ j, goN n m j 1 = nI n := fun j => (goN_1 j).trans hN
    have loop : ∀ j, j ≤ z → V l X (rmk 5 115) C (hp X S (i, goN n m j, va_up r 2 m, bkC (bkE (r 5 Q) (nI P) (pv m P)) c Q j)) 24 [some (.ref (ga X 47)), some (.int (nI Q)), some (.int (nI P)), some (.int 0), some (.int (nI j))] [] := by
      refine v_up z ?_ ?_
      · refine v_iload hC rfl dX6_book_24 (q := 26) rfl ?_
        refine v_aload_n hC rfl dX6_book_26 (q := 27) rfl ?_
        refine v_get hC fl_X6_28 (k := 47) (by decide) hp_47 rfl dX6_book_27 (q := 30) rfl ?_
        refine v_iload_n hC rfl dX6_book_30 (q := 31) rfl ?_
        refine v_iald hC (k := 54) (by decide) hp_54 (ix4' (by omega)) (j := Q) (nI_clamp (by omega)) dX6_book_31 (q := 32) rfl ?_
        refine v_icmp_ge hC dX6_book_32 (t := 73) rfl (q := 35) rfl (fun _ => ?_) (fun h => absurd (by rw [r6, hsz]; exact Int32.le_refl _) h)
        refine v_aload_n hC rfl dX6_book_73 (q := 74) rfl ?_
        refine v_Vv hC lkV_X6_126 c_X6_putsBack rfl (by decide) (k := 47) (by decide) hp_47 rfl rfl (Nat.le_of_ble_eq_true rfl) dX6_book_74 (q := 77) rfl ?_
        rintro _ rfl
        rw [va_up_self]
        refine v_aload_n hC rfl dX6_book_77 (q := 78) rfl ?_
        refine v_get hC fl_X6_28 (k := 47) (by decide) hp_47 rfl dX6_book_78 (q := 81) rfl ?_
        refine v_iload_n hC rfl dX6_book_81 (q := 82) rfl ?_
        refine v_iald hC (k := 54) (by decide) hp_54 (ix4' (by omega)) (j := Q) (nI_clamp (by omega)) dX6_book_82 (q := 83) rfl ?_
        refine hR _ _ _ _ ?_ dX6_book_83
        exact ⟨by simp only [S_book, e, ansI, r6], m, by simp only [S_book, C_book, e, hzc, fnR]⟩
      · intro j hj ih
        refine v_iload hC rfl dX6_book_24 (q := 26) rfl ?_
        refine v_aload_n hC rfl dX6_book_26 (q := 27) rfl ?_
        refine v_get hC fl_X6_28 (k := 47) (by decide) hp_47 rfl dX6_book_27 (q := 30) rfl ?_
        refine v_iload_n hC rfl dX6_book_30 (q := 31) rfl ?_
        refine v_iald hC (k := 54) (by decide) hp_54 (ix4' (by omega)) (j := Q) (nI_clamp (by omega)) dX6_book_31 (q := 32) rfl ?_
        refine v_icmp_ge hC dX6_book_32 (t := 73) rfl (q := 35) rfl (fun h => absurd h (by rw [r6, hsz]; exact nI_ge hj (by omega))) (fun _ => ?_)
        refine v_aload_n hC rfl dX6_book_35 (q := 36) rfl ?_
        refine v_get hC fl_X6_31 (k := 47) (by decide) hp_47 rfl dX6_book_36 (q := 39) rfl ?_
        refine v_bipush hC (v := 40) rfl dX6_book_39 (q := 41) rfl ?_
        refine v_iload_n hC rfl dX6_book_41 (q := 42) rfl ?_
        refine v_imul hC dX6_book_42 (q := 43) rfl ?_
        refine v_iload hC rfl dX6_book_43 (q := 45) rfl ?_
        refine v_iadd hC dX6_book_45 (q := 46) rfl ?_
        refine v_aload_n hC rfl dX6_book_46 (q := 47) rfl ?_
        refine v_get hC fl_X6_25 (k := 47) (by decide) hp_47 rfl dX6_book_47 (q := 50) rfl ?_
        refine v_iload_n hC rfl dX6_book_50 (q := 51) rfl ?_
        refine v_iald hC (k := 53) (by decide) hp_53 (ix4' (by omega)) (j := Q) (nI_clamp (by omega)) dX6_book_51 (q := 52) rfl ?_
        refine v_aload_n hC rfl dX6_book_52 (q := 53) rfl ?_
        refine v_iload_n hC rfl dX6_book_53 (q := 54) rfl ?_
        refine v_iconst hC (v := 1) rfl dX6_book_54 (q := 55) rfl ?_
        refine v_Vi hC lkV_X6_49 (c_X6_it (w := 1) (by first | assumption | omega) (Nat.le_of_ble_eq_true rfl)) rfl (by decide) (k := 47) (by decide) hp_47 rfl rfl (Nat.le_of_ble_eq_true rfl) dX6_book_55 (q := 58) rfl ?_
        rintro _ _ ⟨rfl, rfl⟩
        refine v_i2l hC dX6_book_58 (q := 59) rfl ?_
        refine v_Sl hC lkS_X6_210 c_X6_cutTo rfl (by decide) rfl (Nat.le_of_ble_eq_true rfl) dX6_book_59 (q := 62) rfl ?_
        rintro _ _ ⟨rfl, rfl⟩
        refine v_last hC (k := 55) (by decide) hp_55 (ixC hQ (by omega)).1 (ixC hQ (by omega)).2 (hpc _) dX6_book_62 (q := 63) rfl ?_
        refine v_aload_n hC rfl dX6_book_63 (q := 64) rfl ?_
        refine v_Vv hC lkV_X6_102 (c_X6_goes (e1 j) h8) rfl (by decide) (k := 47) (by decide) hp_47 rfl rfl (Nat.le_of_ble_eq_true rfl) dX6_book_64 (q := 67) rfl ?_
        rintro _ rfl
        refine v_iinc_4 hC (v := _ + 1) rfl rfl dX6_book_67 (q := 70) rfl ?_
        refine v_goto hC dX6_book_70 (t := 24) rfl ?_
        refine v_same ?_ ?_ rfl ih
        · rw [← bkC_s, bkE, ← pv_goN hP]; rfl
        · simp [nI_1]
    refine v_aload_n hC rfl dX6_book_0 (q := 1) rfl ?_
    refine v_iload_n hC rfl dX6_book_1 (q := 2) rfl ?_
    refine v_iload_n hC rfl dX6_book_2 (q := 3) rfl ?_
    refine v_Vi hC lkV_X6_218 (c_X6_notAsked hN h8) rfl (by decide) (k := 47) (by decide) hp_47 rfl rfl (Nat.le_of_ble_eq_true rfl) dX6_book_3 (q := 6) rfl ?_
    rintro _ _ ⟨rfl, rfl⟩
    rw [e, whyA]
    refine v_istore_3 hC rfl dX6_book_6 (q := 7) rfl ?_
    refine v_iload_n hC rfl dX6_book_7 (q := 8) rfl ?_
    refine v_if_eq hC dX6_book_8 (t := 17) rfl (q := 11) rfl (fun _ => ?_) (fun h => absurd rfl h)
    refine v_aload_n hC rfl dX6_book_17 (q := 18) rfl ?_
    refine v_Vv hC lkV_X6_123 c_X6_thinks rfl (by decide) (k := 47) (by decide) hp_47 rfl rfl (Nat.le_of_ble_eq_true rfl) dX6_book_18 (q := 21) rfl ?_
    rintro _ rfl
    refine v_iconst hC (v := 0) rfl dX6_book_21 (q := 22) rfl ?_
    refine v_istore_4 hC rfl dX6_book_22 (q := 24) rfl ?_
    refine v_same ?_ rfl rfl (loop 0 (Nat.zero_le _))
    rw [bkC_0]
    rfl

set_option maxHeartbeats 4000000 in
set_option maxRecDepth 100000 in
theorem c_X6_isBook {l : Launch} {X : Gx} {S : CS} {i m : Nat → Int32} {r : Nat → Nat → Int32} {c : Nat → Int64} {n p : Nat} (hN : m 1 = nI n) (h8 : n ≤ 8) (hP : p < n) {Q z : Nat} (hQ : Q < 4) (hz : z ≤ 40) (hsz : r 6 Q = nI z) : Ci l X yX6_isBook cX6_isBook 5 (some .boolean) (rmk 5 115) [.ref (ga X 47), .int (nI Q), .int (nI p)] (hp X S (i, m, r, c)) (fun x g => ((∀ k, k < z → c (40 * Q + k) = (itD (nI p) (pv m p) k 1).toInt64) ∧ x = 1 ∨ ¬ (∀ k, k < z → c (40 * Q + k) = (itD (nI p) (pv m p) k 1).toInt64) ∧ x = 0) ∧ g = hp X S (i, r 2, r, c)) := by
  refine ct_z (own := RX6) (lv := [some (.ref (ga X 47)), some (.int (nI Q)), some (.int (nI p)), none, none]) (by decide) rfl (Nat.le_of_ble_eq_true rfl) (Nat.le_of_ble_eq_true rfl) rfl (fun C hC hR => ?_)
  have e1 : ∀ j, goN n m j 1 = nI n := fun j => (goN_1 j).trans hN
  have hp8 : p < 8 := by omega
  have no : ¬ (∀ k, k < z → c (40 * Q + k) = (itD (nI p) (pv m p) k 1).toInt64) → ∀ j m2, V l X (rmk 5 115) C (hp X S (i, m2, r, c)) 5 [some (.ref (ga X 47)), some (.int (nI Q)), some (.int (nI p)), some (.int 0), some (.int (nI j))] [] := by
    intro hno j m2
    refine v_iload hC rfl dX6_isBook_5 (q := 7) rfl ?_
    refine v_aload_n hC rfl dX6_isBook_7 (q := 8) rfl ?_
    refine v_get hC fl_X6_28 (k := 47) (by decide) hp_47 rfl dX6_isBook_8 (q := 11) rfl ?_
    refine v_iload_n hC rfl dX6_isBook_11 (q := 12) rfl ?_
    refine v_iald hC (k := 54) (by decide) hp_54 (ix4' (by omega)) (j := Q) (nI_clamp (by omega)) dX6_isBook_12 (q := 13) rfl ?_
    refine v_icmp_ge hC dX6_isBook_13 (t := 59) rfl (q := 16) rfl (fun h13 => ?_) (fun h13 => ?_)
    · refine v_aload_n hC rfl dX6_isBook_59 (q := 60) rfl ?_
      refine v_Vv hC lkV_X6_126 c_X6_putsBack rfl (by decide) (k := 47) (by decide) hp_47 rfl rfl (Nat.le_of_ble_eq_true rfl) dX6_isBook_60 (q := 63) rfl ?_
      rintro _ rfl
      refine v_iload_n hC rfl dX6_isBook_63 (q := 64) rfl ?_
      refine hR _ _ _ _ ?_ (by first | rfl | decide | assumption) dX6_isBook_64
      exact ⟨Or.inr ⟨hno, rfl⟩, rfl⟩
    · refine v_iload_n hC rfl dX6_isBook_16 (q := 17) rfl ?_
      refine v_if_eq hC dX6_isBook_17 (t := 59) rfl (q := 20) rfl (fun _ => ?_) (fun h => absurd h (by decide))
      refine v_aload_n hC rfl dX6_isBook_59 (q := 60) rfl ?_
      refine v_Vv hC lkV_X6_126 c_X6_putsBack rfl (by decide) (k := 47) (by decide) hp_47 rfl rfl (Nat.le_of_ble_eq_true rfl) dX6_isBook_60 (q := 63) rfl ?_
      rintro _ rfl
      refine v_iload_n hC rfl dX6_isBook_63 (q := 64) rfl ?_
      refine hR _ _ _ _ ?_ (by first | rfl | decide | assumption) dX6_isBook_64
      exact ⟨Or.inr ⟨hno, rfl⟩, rfl⟩
  have loop : ∀ j, j ≤ z → (∀ k, k < j → c (40 * Q + k) = (itD (nI p) (pv m p) k 1).toInt64) → V l X (rmk 5 115) C (hp X S (i, goN n m j, r, c)) 5 [some (.ref (ga X 47)), some (.int (nI Q)), some (.int (nI p)), some (.int 1), some (.int (nI j))] [] := by
    refine v_up z ?_ ?_
    · intro hI
      refine v_iload hC rfl dX6_isBook_5 (q := 7) rfl ?_
      refine v_aload_n hC rfl dX6_isBook_7 (q := 8) rfl ?_
      refine v_get hC fl_X6_28 (k := 47) (by decide) hp_47 rfl dX6_isBook_8 (q := 11) rfl ?_
      refine v_iload_n hC rfl dX6_isBook_11 (q := 12) rfl ?_
      refine v_iald hC (k := 54) (by decide) hp_54 (ix4' (by omega)) (j := Q) (nI_clamp (by omega)) dX6_isBook_12 (q := 13) rfl ?_
      refine v_icmp_ge hC dX6_isBook_13 (t := 59) rfl (q := 16) rfl (fun _ => ?_) (fun h => absurd (by rw [hsz]; exact Int32.le_refl _) h)
      refine v_aload_n hC rfl dX6_isBook_59 (q := 60) rfl ?_
      refine v_Vv hC lkV_X6_126 c_X6_putsBack rfl (by decide) (k := 47) (by decide) hp_47 rfl rfl (Nat.le_of_ble_eq_true rfl) dX6_isBook_60 (q := 63) rfl ?_
      rintro _ rfl
      refine v_iload_n hC rfl dX6_isBook_63 (q := 64) rfl ?_
      refine hR _ _ _ _ ?_ (by first | rfl | decide | assumption) dX6_isBook_64
      exact ⟨Or.inl ⟨hI, rfl⟩, rfl⟩
    · intro j hj ih hI
      refine v_iload hC rfl dX6_isBook_5 (q := 7) rfl ?_
      refine v_aload_n hC rfl dX6_isBook_7 (q := 8) rfl ?_
      refine v_get hC fl_X6_28 (k := 47) (by decide) hp_47 rfl dX6_isBook_8 (q := 11) rfl ?_
      refine v_iload_n hC rfl dX6_isBook_11 (q := 12) rfl ?_
      refine v_iald hC (k := 54) (by decide) hp_54 (ix4' (by omega)) (j := Q) (nI_clamp (by omega)) dX6_isBook_12 (q := 13) rfl ?_
      refine v_icmp_ge hC dX6_isBook_13 (t := 59) rfl (q := 16) rfl (fun h => absurd h (by rw [hsz]; exact nI_ge hj (by omega))) (fun _ => ?_)
      refine v_iload_n hC rfl dX6_isBook_16 (q := 17) rfl ?_
      refine v_if_eq hC dX6_isBook_17 (t := 59) rfl (q := 20) rfl (fun h => absurd h (by decide)) (fun _ => ?_)
      refine v_aload_n hC rfl dX6_isBook_20 (q := 21) rfl ?_
      refine v_get hC fl_X6_31 (k := 47) (by decide) hp_47 rfl dX6_isBook_21 (q := 24) rfl ?_
      refine v_bipush hC (v := 40) rfl dX6_isBook_24 (q := 26) rfl ?_
      refine v_iload_n hC rfl dX6_isBook_26 (q := 27) rfl ?_
      refine v_imul hC dX6_isBook_27 (q := 28) rfl ?_
      refine v_iload hC rfl dX6_isBook_28 (q := 30) rfl ?_
      refine v_iadd hC dX6_isBook_30 (q := 31) rfl ?_
      refine v_lald hC (k := 55) (by decide) hp_55 (ixC hQ (by omega)).1 (ixC hQ (by omega)).2 dX6_isBook_31 (q := 32) rfl ?_
      refine v_aload_n hC rfl dX6_isBook_32 (q := 33) rfl ?_
      refine v_iload_n hC rfl dX6_isBook_33 (q := 34) rfl ?_
      refine v_iconst hC (v := 1) rfl dX6_isBook_34 (q := 35) rfl ?_
      refine v_Vi hC lkV_X6_49 (c_X6_it (w := 1) (by first | assumption | omega) (Nat.le_of_ble_eq_true rfl)) rfl (by decide) (k := 47) (by decide) hp_47 rfl rfl (Nat.le_of_ble_eq_true rfl) dX6_isBook_35 (q := 38) rfl ?_
      rintro _ _ ⟨rfl, rfl⟩
      refine v_i2l hC dX6_isBook_38 (q := 39) rfl ?_
      refine v_lcmp hC dX6_isBook_39 (q := 40) rfl ?_
      refine v_if_ne hC dX6_isBook_40 (t := 47) rfl (q := 43) rfl (fun h40 => ?_) (fun h40 => ?_)
      · refine v_iconst hC (v := 0) rfl dX6_isBook_47 (q := 48) rfl ?_
        refine v_istore_3 hC rfl dX6_isBook_48 (q := 49) rfl ?_
        refine v_aload_n hC rfl dX6_isBook_49 (q := 50) rfl ?_
        refine v_Vv hC lkV_X6_102 (c_X6_goes (e1 j) h8) rfl (by decide) (k := 47) (by decide) hp_47 rfl rfl (Nat.le_of_ble_eq_true rfl) dX6_isBook_50 (q := 53) rfl ?_
        rintro _ rfl
        refine v_iinc_4 hC (v := _ + 1) rfl rfl dX6_isBook_53 (q := 56) rfl ?_
        refine v_goto hC dX6_isBook_56 (t := 5) rfl ?_
        have he := lg_cmp_eq (c (40 * Q + j)) (pv (goN n m j) p 1).toInt64
        rw [pv_goN hP] at he h40
        refine v_same rfl ?_ rfl (no (fun z1 => h40 (he.mpr (z1 j hj))) (j + 1) _)
        simp [nI_1]
      · refine v_iconst hC (v := 1) rfl dX6_isBook_43 (q := 44) rfl ?_
        refine v_goto hC dX6_isBook_44 (t := 48) rfl ?_
        refine v_istore_3 hC rfl dX6_isBook_48 (q := 49) rfl ?_
        refine v_aload_n hC rfl dX6_isBook_49 (q := 50) rfl ?_
        refine v_Vv hC lkV_X6_102 (c_X6_goes (e1 j) h8) rfl (by decide) (k := 47) (by decide) hp_47 rfl rfl (Nat.le_of_ble_eq_true rfl) dX6_isBook_50 (q := 53) rfl ?_
        rintro _ rfl
        refine v_iinc_4 hC (v := _ + 1) rfl rfl dX6_isBook_53 (q := 56) rfl ?_
        refine v_goto hC dX6_isBook_56 (t := 5) rfl ?_
        have he := lg_cmp_eq (c (40 * Q + j)) (pv (goN n m j) p 1).toInt64
        rw [pv_goN hP] at he h40
        refine v_same rfl ?_ rfl (ih (lt_s hI (he.mp h40)))
        simp [nI_1]
  refine v_iconst hC (v := 1) rfl dX6_isBook_0 (q := 1) rfl ?_
  refine v_istore_3 hC rfl dX6_isBook_1 (q := 2) rfl ?_
  refine v_iconst hC (v := 0) rfl dX6_isBook_2 (q := 3) rfl ?_
  refine v_istore_4 hC rfl dX6_isBook_3 (q := 5) rfl ?_
  exact loop 0 (Nat.zero_le _) (fun k hk => absurd hk (Nat.not_lt_zero _))

def rdK (cq : Nat → Int64) (z : Nat) (k : Int32) (v : Nat → Int32) (j : Nat) : Bool := decide (∀ x, x < z → cq x = (itD k (upd (upd v 0 (nI (j / 100))) 5 (nI (j % 100))) x 1).toInt64)
def cntN (b : Nat → Bool) : Nat → Nat
  | 0 => 0
  | j + 1 => if b j then cntN b j + 1 else cntN b j
theorem rdN_ex : ∃ f : (Nat → Int64) → Nat → Int32 → (Nat → Int32) → Nat, ∀ cq z k v, f cq z k v = cntN (rdK cq z k v) 600 := ⟨fun cq z k v => cntN (rdK cq z k v) 600, fun _ _ _ _ => rfl⟩
noncomputable def rdN : (Nat → Int64) → Nat → Int32 → (Nat → Int32) → Nat := Classical.choose rdN_ex
theorem rdN_eq (cq : Nat → Int64) (z : Nat) (k : Int32) (v : Nat → Int32) : rdN cq z k v = cntN (rdK cq z k v) 600 := Classical.choose_spec rdN_ex cq z k v
noncomputable def S_read (bt sz : Nat → Int32) (cq : Nat → Nat → Int64) (g : Nat → Nat → Int32) (n : Nat) (s p : Int32) : An := match nA bt n s p with
  | .inl k => .inl k
  | .inr (Q, P) => .inr (nI (rdN (cq Q) (sz Q).toNatClampNeg (nI P) (g P)))
set_option maxHeartbeats 4000000 in
set_option maxRecDepth 100000 in
theorem c_X6_read {l : Launch} {X : Gx} {S : CS} {i m : Nat → Int32} {r : Nat → Nat → Int32} {c : Nat → Int64} {n : Nat} (hN : m 1 = nI n) (h8 : n ≤ 8) (hZ : szOK (r 6)) {s p : Int32} : Ci l X yX6_read cX6_read 6 (some .int) (rmk 6 139) [.ref (ga X 47), .int s, .int p] (hp X S (i, m, r, c)) (fun z g => z = ansI (S_read (r 5) (r 6) (fun q k => c (40 * q + k)) (pv m) n s p) ∧ ∃ W, g = hp X S (i, m, fnR (va_up r 2 W) (S_read (r 5) (r 6) (fun q k => c (40 * q + k)) (pv m) n s p), c)) := by
  refine ct_i (own := RX6) (lv := [some (.ref (ga X 47)), some (.int s), some (.int p), none, none, none]) (by decide) rfl (Nat.le_of_ble_eq_true rfl) (Nat.le_of_ble_eq_true rfl) rfl (fun C hC hR => ?_)
  cases e : nA (r 5) n s p with
  | inl k =>
    have hk := nA_lt e
    have h0 := fnd_ne ⟨k, hk⟩
    refine v_aload_n hC rfl dX6_read_0 (q := 1) rfl ?_
    refine v_iload_n hC rfl dX6_read_1 (q := 2) rfl ?_
    refine v_iload_n hC rfl dX6_read_2 (q := 3) rfl ?_
    refine v_Vi hC lkV_X6_218 (c_X6_notAsked hN h8) rfl (by decide) (k := 47) (by decide) hp_47 rfl rfl (Nat.le_of_ble_eq_true rfl) dX6_read_3 (q := 6) rfl ?_
    rintro _ _ ⟨rfl, rfl⟩
    rw [e, whyA]
    refine v_istore_3 hC rfl dX6_read_6 (q := 7) rfl ?_
    refine v_iload_n hC rfl dX6_read_7 (q := 8) rfl ?_
    refine v_if_eq hC dX6_read_8 (t := 17) rfl (q := 11) rfl (fun h => absurd h h0) (fun _ => ?_)
    refine v_aload_n hC rfl dX6_read_11 (q := 12) rfl ?_
    refine v_iload_n hC rfl dX6_read_12 (q := 13) rfl ?_
    refine v_Vi hC lkV_X6_37 (c_X6_finds hk) rfl (by decide) (k := 47) (by decide) hp_47 rfl rfl (Nat.le_of_ble_eq_true rfl) dX6_read_13 (q := 16) rfl ?_
    rintro _ _ ⟨rfl, rfl⟩
    refine hR _ _ _ _ ?_ dX6_read_16
    exact ⟨by simp only [S_read, e, ansI], r 2, by simp only [S_read, e, fnR, up_id]⟩
  | inr x =>
    obtain ⟨Q, P⟩ := x
    obtain ⟨hQ, rfl, hb, hP, rfl⟩ := nA_ok h8 e
    obtain ⟨z, hz, hsz⟩ := hZ Q hQ
    have hzc : (r 6 Q).toNatClampNeg = z := by rw [hsz]; exact nI_clamp (by omega)
    have hP8 : P < 8 := by omega
    have r6 : va_up r 2 m 6 = r 6 := va_up_ne _ _ (by decide)
    have r5 : va_up r 2 m 5 = r 5 := va_up_ne _ _ (by decide)
    have loop : ∀ j, j ≤ 600 → V l X (rmk 6 139) C (hp X S (i, m, va_up r 2 m, c)) 27 [some (.ref (ga X 47)), some (.int (nI Q)), some (.int (nI P)), some (.int 0), some (.int (nI (cntN (rdK (fun x => c (40 * Q + x)) z (nI P) (pv m P)) j))), some (.int (nI j))] [] := by
      refine v_up 600 ?_ ?_
      · refine v_iload hC rfl dX6_read_27 (q := 29) rfl ?_
        refine v_sipush hC (v := 600) rfl dX6_read_29 (q := 32) rfl ?_
        refine v_icmp_ge hC dX6_read_32 (t := 82) rfl (q := 35) rfl (fun _ => ?_) (fun h => absurd (by decide) h)
        refine v_iload hC rfl dX6_read_82 (q := 84) rfl ?_
        refine hR _ _ _ _ ?_ dX6_read_84
        exact ⟨by simp only [S_read, e, ansI, hzc, rdN_eq], m, by simp only [S_read, e, fnR, hzc]⟩
      · intro j hj ih
        refine v_iload hC rfl dX6_read_27 (q := 29) rfl ?_
        refine v_sipush hC (v := 600) rfl dX6_read_29 (q := 32) rfl ?_
        refine v_icmp_ge hC dX6_read_32 (t := 82) rfl (q := 35) rfl (fun h => absurd h (nI_ge (b := 600) hj (by decide))) (fun _ => ?_)
        refine v_aload_n hC rfl dX6_read_35 (q := 36) rfl ?_
        refine v_iload_n hC rfl dX6_read_36 (q := 37) rfl ?_
        refine v_iconst hC (v := 0) rfl dX6_read_37 (q := 38) rfl ?_
        refine v_iload hC rfl dX6_read_38 (q := 40) rfl ?_
        refine v_bipush hC (v := 100) rfl dX6_read_40 (q := 42) rfl ?_
        refine v_idiv hC (by decide) dX6_read_42 (q := 43) rfl ?_
        rw [show (100 : Int32) = nI 100 from rfl, pk_div (by omega) (by decide) (by decide)]
        refine v_Vv hC lkV_X6_63 (c_X6_put (p := P) (w := 0) (by omega) (by decide)) rfl (by decide) (k := 47) (by decide) hp_47 rfl rfl (Nat.le_of_ble_eq_true rfl) dX6_read_43 (q := 46) rfl ?_
        rintro _ rfl
        refine v_aload_n hC rfl dX6_read_46 (q := 47) rfl ?_
        refine v_iload_n hC rfl dX6_read_47 (q := 48) rfl ?_
        refine v_iconst hC (v := 5) rfl dX6_read_48 (q := 49) rfl ?_
        refine v_iload hC rfl dX6_read_49 (q := 51) rfl ?_
        refine v_bipush hC (v := 100) rfl dX6_read_51 (q := 53) rfl ?_
        refine v_irem hC (by decide) dX6_read_53 (q := 54) rfl ?_
        rw [show (100 : Int32) = nI 100 from rfl, pk_rem (by omega) (by decide) (by decide)]
        refine v_Vv hC lkV_X6_63 (c_X6_put (p := P) (w := 5) (by omega) (by decide)) rfl (by decide) (k := 47) (by decide) hp_47 rfl rfl (Nat.le_of_ble_eq_true rfl) dX6_read_54 (q := 57) rfl ?_
        rintro _ rfl
        refine v_iload hC rfl dX6_read_57 (q := 59) rfl ?_
        refine v_aload_n hC rfl dX6_read_59 (q := 60) rfl ?_
        refine v_iload_n hC rfl dX6_read_60 (q := 61) rfl ?_
        refine v_iload_n hC rfl dX6_read_61 (q := 62) rfl ?_
        refine v_Vi hC lkV_X6_221 (c_X6_isBook (m := pu (pu m P 0 (nI (j / 100))) P 5 (nI (j % 100))) (r := va_up r 2 m) (pu_1.trans (pu_1.trans hN)) h8 hP hQ hz (by rw [r6]; exact hsz)) rfl (by decide) (k := 47) (by decide) hp_47 rfl rfl (Nat.le_of_ble_eq_true rfl) dX6_read_62 (q := 65) rfl ?_
        rintro _ _ ⟨⟨hc62, rfl⟩ | ⟨hc62, rfl⟩, rfl⟩
        · rw [va_up_self]
          refine v_if_eq hC dX6_read_65 (t := 72) rfl (q := 68) rfl (fun h => absurd h (by decide)) (fun _ => ?_)
          refine v_iconst hC (v := 1) rfl dX6_read_68 (q := 69) rfl ?_
          refine v_goto hC dX6_read_69 (t := 73) rfl ?_
          refine v_iadd hC dX6_read_73 (q := 74) rfl ?_
          refine v_istore_4 hC rfl dX6_read_74 (q := 76) rfl ?_
          refine v_iinc_5 hC (v := _ + 1) rfl rfl dX6_read_76 (q := 79) rfl ?_
          refine v_goto hC dX6_read_79 (t := 27) rfl ?_
          have hpv : pv (pu (pu m P 0 (nI (j / 100))) P 5 (nI (j % 100))) P = upd (upd (pv m P) 0 (nI (j / 100))) 5 (nI (j % 100)) := by rw [pv_pu (by decide), pv_pu (by decide)]
          rw [hpv] at hc62
          have hb : (rdK (fun x => c (40 * Q + x)) z (nI P) (pv m P)) j = true := decide_eq_true hc62
          refine v_same rfl ?_ rfl ih
          rw [cntN, if_pos hb]
          simp [nI_1]
        · rw [va_up_self]
          refine v_if_eq hC dX6_read_65 (t := 72) rfl (q := 68) rfl (fun _ => ?_) (fun h => absurd h (by decide))
          refine v_iconst hC (v := 0) rfl dX6_read_72 (q := 73) rfl ?_
          refine v_iadd hC dX6_read_73 (q := 74) rfl ?_
          refine v_istore_4 hC rfl dX6_read_74 (q := 76) rfl ?_
          refine v_iinc_5 hC (v := _ + 1) rfl rfl dX6_read_76 (q := 79) rfl ?_
          refine v_goto hC dX6_read_79 (t := 27) rfl ?_
          have hpv : pv (pu (pu m P 0 (nI (j / 100))) P 5 (nI (j % 100))) P = upd (upd (pv m P) 0 (nI (j / 100))) 5 (nI (j % 100)) := by rw [pv_pu (by decide), pv_pu (by decide)]
          rw [hpv] at hc62
          have hb : ¬ (rdK (fun x => c (40 * Q + x)) z (nI P) (pv m P)) j = true := fun z1 => hc62 (of_decide_eq_true z1)
          refine v_same rfl ?_ rfl ih
          rw [cntN, if_neg hb]
          simp [nI_1]
    refine v_aload_n hC rfl dX6_read_0 (q := 1) rfl ?_
    refine v_iload_n hC rfl dX6_read_1 (q := 2) rfl ?_
    refine v_iload_n hC rfl dX6_read_2 (q := 3) rfl ?_
    refine v_Vi hC lkV_X6_218 (c_X6_notAsked hN h8) rfl (by decide) (k := 47) (by decide) hp_47 rfl rfl (Nat.le_of_ble_eq_true rfl) dX6_read_3 (q := 6) rfl ?_
    rintro _ _ ⟨rfl, rfl⟩
    rw [e, whyA]
    refine v_istore_3 hC rfl dX6_read_6 (q := 7) rfl ?_
    refine v_iload_n hC rfl dX6_read_7 (q := 8) rfl ?_
    refine v_if_eq hC dX6_read_8 (t := 17) rfl (q := 11) rfl (fun _ => ?_) (fun h => absurd rfl h)
    refine v_aload_n hC rfl dX6_read_17 (q := 18) rfl ?_
    refine v_Vv hC lkV_X6_123 c_X6_thinks rfl (by decide) (k := 47) (by decide) hp_47 rfl rfl (Nat.le_of_ble_eq_true rfl) dX6_read_18 (q := 21) rfl ?_
    rintro _ rfl
    refine v_iconst hC (v := 0) rfl dX6_read_21 (q := 22) rfl ?_
    refine v_istore_4 hC rfl dX6_read_22 (q := 24) rfl ?_
    refine v_iconst hC (v := 0) rfl dX6_read_24 (q := 25) rfl ?_
    refine v_istore_5 hC rfl dX6_read_25 (q := 27) rfl ?_
    exact loop 0 (Nat.zero_le _)

set_option maxHeartbeats 4000000 in
set_option maxRecDepth 100000 in
theorem c_X6_image {l : Launch} {X : Gx} {S : CS} {i m : Nat → Int32} {r : Nat → Nat → Int32} {c : Nat → Int64} : Ci l X yX6_image cX6_image 1 (some .int) (rmk 1 22) [.ref (ga X 47)] (hp X S (i, m, r, c)) (fun z g => z = 1 ∧ g = hp X S (va_up i 0 1, m, va_up r 1 m, c)) := by
  refine ct_i (own := RX6) (lv := [some (.ref (ga X 47))]) (by decide) rfl (Nat.le_of_ble_eq_true rfl) (Nat.le_of_ble_eq_true rfl) rfl (fun C hC hR => ?_)
  refine v_aload_n hC rfl dX6_image_0 (q := 1) rfl ?_
  refine v_get hC fl_X6_9 (k := 47) (by decide) hp_47 rfl dX6_image_1 (q := 4) rfl ?_
  refine v_aload_n hC rfl dX6_image_4 (q := 5) rfl ?_
  refine v_get hC fl_X6_13 (k := 47) (by decide) hp_47 rfl dX6_image_5 (q := 8) rfl ?_
  refine v_Sv hC lkS_X6_119 c_cp_48_49 rfl (by decide) rfl (Nat.le_of_ble_eq_true rfl) dX6_image_8 (q := 11) rfl ?_
  rintro _ rfl
  refine v_aload_n hC rfl dX6_image_11 (q := 12) rfl ?_
  refine v_iconst hC (v := 1) rfl dX6_image_12 (q := 13) rfl ?_
  refine v_put hC fl_X6_224 pt_5_3 (k := 47) (by decide) hp_47 (Nat.le_of_ble_eq_true rfl) rfl rfl (hpi_0 _) dX6_image_13 (q := 16) rfl ?_
  refine v_iconst hC (v := 1) rfl dX6_image_16 (q := 17) rfl ?_
  refine hR _ _ _ _ ?_ dX6_image_17
  exact ⟨rfl, rfl⟩

def S_undo (kp : Int32) (x : Int32) : An := if kp = 0 then .inl 3 else .inr x
set_option maxHeartbeats 4000000 in
set_option maxRecDepth 100000 in
theorem c_X6_undo {l : Launch} {X : Gx} {S : CS} {i m : Nat → Int32} {r : Nat → Nat → Int32} {c : Nat → Int64} : Ci l X yX6_undo cX6_undo 1 (some .int) (rmk 1 22) [.ref (ga X 47)] (hp X S (i, m, r, c)) (fun z g => z = ansI (S_undo (i 0) (r 1 1)) ∧ g = hp X S (i, if i 0 = 0 then m else r 1, fnR r (S_undo (i 0) (r 1 1)), c)) := by
  refine ct_i (own := RX6) (lv := [some (.ref (ga X 47))]) (by decide) rfl (Nat.le_of_ble_eq_true rfl) (Nat.le_of_ble_eq_true rfl) rfl (fun C hC hR => ?_)
  refine v_aload_n hC rfl dX6_undo_0 (q := 1) rfl ?_
  refine v_get hC fl_X6_224 (k := 47) (by decide) hp_47 rfl dX6_undo_1 (q := 4) rfl ?_
  refine v_if_ne hC dX6_undo_4 (t := 14) rfl (q := 7) rfl (fun h4 => ?_) (fun h4 => ?_)
  · refine v_aload_n hC rfl dX6_undo_14 (q := 15) rfl ?_
    refine v_get hC fl_X6_13 (k := 47) (by decide) hp_47 rfl dX6_undo_15 (q := 18) rfl ?_
    refine v_aload_n hC rfl dX6_undo_18 (q := 19) rfl ?_
    refine v_get hC fl_X6_9 (k := 47) (by decide) hp_47 rfl dX6_undo_19 (q := 22) rfl ?_
    refine v_Sv hC lkS_X6_119 c_cp_49_48 rfl (by decide) rfl (Nat.le_of_ble_eq_true rfl) dX6_undo_22 (q := 25) rfl ?_
    rintro _ rfl
    refine v_aload_n hC rfl dX6_undo_25 (q := 26) rfl ?_
    refine v_get hC fl_X6_9 (k := 47) (by decide) hp_47 rfl dX6_undo_26 (q := 29) rfl ?_
    refine v_iconst hC (v := 1) rfl dX6_undo_29 (q := 30) rfl ?_
    refine v_iald hC (k := 48) (by decide) hp_48 (vp_l (by decide)) (j := 1) rfl dX6_undo_30 (q := 31) rfl ?_
    refine hR _ _ _ _ ?_ dX6_undo_31
    exact ⟨by simp only [S_undo, if_neg h4, ansI], by simp only [S_undo, if_neg h4, fnR]⟩
  · refine v_aload_n hC rfl dX6_undo_7 (q := 8) rfl ?_
    refine v_ldc hC wk_X6_36 dX6_undo_8 (q := 10) rfl ?_
    refine v_Vi hC lkV_X6_37 (c_X6_finds (n := 3) (by decide)) rfl (by decide) (k := 47) (by decide) hp_47 rfl rfl (Nat.le_of_ble_eq_true rfl) dX6_undo_10 (q := 13) rfl ?_
    rintro _ _ ⟨rfl, rfl⟩
    refine hR _ _ _ _ ?_ dX6_undo_13
    exact ⟨by simp only [S_undo, if_pos h4, ansI], by simp only [S_undo, if_pos h4, fnR]⟩

set_option maxHeartbeats 4000000 in
set_option maxRecDepth 100000 in
theorem c_X6_tear {l : Launch} {X : Gx} {S : CS} {i m : Nat → Int32} {r : Nat → Nat → Int32} {c : Nat → Int64} : Ci l X yX6_tear cX6_tear 2 (some .int) (rmk 0 0) [.ref (ga X 47)] (hp X S (i, m, r, c)) (fun z g => z = (if i 0 = 0 then 0 else 1) ∧ g = hp X S (va_up i 0 0, m, r, c)) := by
  refine ct_i (own := RX6) (lv := [some (.ref (ga X 47)), none]) (by decide) rfl (Nat.le_of_ble_eq_true rfl) (Nat.le_of_ble_eq_true rfl) rfl (fun C hC hR => ?_)
  refine v_aload_n hC rfl dX6_tear_0 (q := 1) rfl ?_
  refine v_get hC fl_X6_224 (k := 47) (by decide) hp_47 rfl dX6_tear_1 (q := 4) rfl ?_
  refine v_if_eq hC dX6_tear_4 (t := 11) rfl (q := 7) rfl (fun h4 => ?_) (fun h4 => ?_)
  · refine v_iconst hC (v := 0) rfl dX6_tear_11 (q := 12) rfl ?_
    refine v_istore_1 hC rfl dX6_tear_12 (q := 13) rfl ?_
    refine v_aload_n hC rfl dX6_tear_13 (q := 14) rfl ?_
    refine v_iconst hC (v := 0) rfl dX6_tear_14 (q := 15) rfl ?_
    refine v_put hC fl_X6_224 pt_5_3 (k := 47) (by decide) hp_47 (Nat.le_of_ble_eq_true rfl) rfl rfl (hpi_0 _) dX6_tear_15 (q := 18) rfl ?_
    refine v_iload_n hC rfl dX6_tear_18 (q := 19) rfl ?_
    refine hR _ _ _ _ ?_ dX6_tear_19
    exact ⟨by rw [if_pos h4], rfl⟩
  · refine v_iconst hC (v := 1) rfl dX6_tear_7 (q := 8) rfl ?_
    refine v_goto hC dX6_tear_8 (t := 12) rfl ?_
    refine v_istore_1 hC rfl dX6_tear_12 (q := 13) rfl ?_
    refine v_aload_n hC rfl dX6_tear_13 (q := 14) rfl ?_
    refine v_iconst hC (v := 0) rfl dX6_tear_14 (q := 15) rfl ?_
    refine v_put hC fl_X6_224 pt_5_3 (k := 47) (by decide) hp_47 (Nat.le_of_ble_eq_true rfl) rfl rfl (hpi_0 _) dX6_tear_15 (q := 18) rfl ?_
    refine v_iload_n hC rfl dX6_tear_18 (q := 19) rfl ?_
    refine hR _ _ _ _ ?_ dX6_tear_19
    exact ⟨by rw [if_neg h4], rfl⟩
