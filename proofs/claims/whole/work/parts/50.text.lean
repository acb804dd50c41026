/-! ===== a quay of the class and a row of the model that tell the same ===== -/
def qR (m : Nat → Int32) (n : Nat) (qq nq : Nat → Int32) (vv : Nat → Nat → Int32) : Prop := n ≤ 8 ∧ m 1 = nI n ∧ qq 1 = nI n ∧ qq 0 = m 0 ∧ (∀ p, p < n → nq p = nI p) ∧ (∀ p, p < n → vv p = pv m p) ∧ (∀ p, p < n → okV (vv p))
theorem held_b {v : Int32} : 0 ≤ held v 0 99 ∧ held v 0 99 ≤ 99 := by
  unfold held
  split
  · exact ⟨by decide, by decide⟩
  · rename_i h
    split
    · exact ⟨by decide, by decide⟩
    · rename_i h2
      exact ⟨Int32.not_lt.mp h, Int32.not_lt.mp h2⟩
theorem okV_grd {v : Nat → Int32} (h : okV v) : okV (grdV v) := by
  obtain ⟨h0, h1, h2, h3, h4, h5, h6⟩ := h
  have hg : 0 ≤ grindF v ∧ grindF v ≤ 99 := held_b
  exact ⟨h0, h1, h2, Or.inl rfl, h2, hg, ⟨show (0 : Int32) ≤ 0 by decide, show (0 : Int32) ≤ 99 by decide⟩⟩
theorem okV_3 {v : Nat → Int32} {x : Int32} (h : okV v) (hx : x = 0 ∨ x = 1) : okV (upd v 3 x) := by
  obtain ⟨h0, h1, h2, h3, h4, h5, h6⟩ := h
  exact ⟨h0, h1, h2, hx, h4, h5, h6⟩
theorem okV_0 {v : Nat → Int32} {x : Int32} (h : okV v) (hx : 0 ≤ x ∧ x ≤ 5) : okV (upd v 0 x) := by
  obtain ⟨h0, h1, h2, h3, h4, h5, h6⟩ := h
  exact ⟨hx, h1, h2, h3, h4, h5, h6⟩
theorem okV_1 {v : Nat → Int32} {x : Int32} (h : okV v) (hx : 0 ≤ x ∧ x ≤ 99) : okV (upd v 1 x) := by
  obtain ⟨h0, h1, h2, h3, h4, h5, h6⟩ := h
  exact ⟨h0, hx, h2, h3, h4, h5, h6⟩
theorem okV_new {kd g w : Int32} (h1 : 0 ≤ kd ∧ kd ≤ 5) (h2 : 0 ≤ g ∧ g ≤ 99) (h3 : -1 ≤ w) : okV (newV kd g w) := ⟨h1, h2, h3, Or.inl rfl, (show (-1 : Int32) ≤ -1 by decide), ⟨show (0 : Int32) ≤ 0 by decide, show (0 : Int32) ≤ 99 by decide⟩, ⟨show (0 : Int32) ≤ 0 by decide, show (0 : Int32) ≤ 99 by decide⟩⟩
theorem pv_grd {m : Nat → Int32} {P : Nat} : pv (groundM m P) P = grdV (pv m P) := by
  rw [groundM, pv_pu (by decide), pv_pu (by decide), pv_pu (by decide), pv_pu (by decide), grdV]
theorem pv_grdn {m : Nat → Int32} {P p : Nat} (h : P ≠ p) : pv (groundM m P) p = pv m p := by
  rw [groundM, pv_ne (by decide) h, pv_ne (by decide) h, pv_ne (by decide) h, pv_ne (by decide) h]
theorem groundM_0 {m : Nat → Int32} {p : Nat} : groundM m p 0 = m 0 := by simp only [groundM, pu_0]
theorem pv_up1 {m : Nat → Int32} {p : Nat} {x : Int32} : pv (upd m 1 x) p = pv m p := by
  funext j
  simp only [pv, upd]
  by_cases h : j < 7
  · rw [if_pos h, if_pos h, if_neg (by omega)]
  · rw [if_neg h, if_neg h]
theorem pv_new {m : Nat → Int32} {n : Nat} {kd g w : Int32} : pv (newP m n kd g w) n = newV kd g w := by
  rw [newP, pv_pu (by decide), pv_pu (by decide), pv_pu (by decide), pv_pu (by decide), pv_pu (by decide), pv_pu (by decide), pv_pu (by decide)]
  funext j
  by_cases h : j < 7
  · rcases (show j = 0 ∨ j = 1 ∨ j = 2 ∨ j = 3 ∨ j = 4 ∨ j = 5 ∨ j = 6 by omega) with rfl | rfl | rfl | rfl | rfl | rfl | rfl <;> rfl
  · simp only [upd]
    rw [if_neg (by omega), if_neg (by omega), if_neg (by omega), if_neg (by omega), if_neg (by omega), if_neg (by omega), if_neg (by omega), pv, if_neg h, newV]
    match j, h with
    | j + 7, _ => rfl
theorem pv_newn {m : Nat → Int32} {n p : Nat} {kd g w : Int32} (h : n ≠ p) : pv (newP m n kd g w) p = pv m p := by
  rw [newP, pv_ne (by decide) h, pv_ne (by decide) h, pv_ne (by decide) h, pv_ne (by decide) h, pv_ne (by decide) h, pv_ne (by decide) h, pv_ne (by decide) h, pv_up1]
theorem newP_0 {m : Nat → Int32} {n : Nat} {kd g w : Int32} : newP m n kd g w 0 = m 0 := by
  simp only [newP, pu_0]
  simp [upd]
theorem qR_one {m m' : Nat → Int32} {n P : Nat} {qq nq : Nat → Int32} {vv : Nat → Nat → Int32} {w : Nat → Int32} (h : qR m n qq nq vv) (hP : P < n) (h0 : m' 0 = m 0) (h1 : m' 1 = m 1) (h2 : pv m' P = w) (h3 : ∀ p, P ≠ p → pv m' p = pv m p) (hw : okV w) : qR m' n qq nq (va_up vv P w) := by
  obtain ⟨a1, a2, a3, a4, a5, a6, a7⟩ := h
  refine ⟨a1, h1.trans a2, a3, a4.trans h0.symm, a5, fun p hp => ?_, fun p hp => ?_⟩
  · by_cases e : p = P
    · subst e; rw [va_up_self]; exact h2.symm
    · rw [va_up_ne _ _ e, h3 p (Ne.symm e)]; exact a6 p hp
  · by_cases e : p = P
    · subst e; rw [va_up_self]; exact hw
    · rw [va_up_ne _ _ e]; exact a7 p hp
theorem qR_new {m : Nat → Int32} {n : Nat} {qq nq : Nat → Int32} {vv : Nat → Nat → Int32} {kd g w : Int32} (h : qR m n qq nq vv) (h8 : n < 8) (hw : okV (newV kd g w)) : qR (newP m n kd g w) (n + 1) (upd qq 1 (nI n + 1)) (upd nq n (nI n)) (va_up vv n (newV kd g w)) := by
  obtain ⟨a1, a2, a3, a4, a5, a6, a7⟩ := h
  refine ⟨by omega, newP_1 a2, ?_, ?_, fun p hp => ?_, fun p hp => ?_, fun p hp => ?_⟩
  · simp only [upd, if_true]; exact nI_1 n
  · rw [newP_0, ← a4]; rfl
  · by_cases e : p = n
    · subst e; simp only [upd, if_true]
    · simp only [upd, if_neg e]; exact a5 p (by omega)
  · by_cases e : p = n
    · subst e; rw [va_up_self, pv_new]
    · rw [va_up_ne _ _ e, pv_newn (Ne.symm e)]; exact a6 p (by omega)
  · by_cases e : p = n
    · subst e; rw [va_up_self]; exact hw
    · rw [va_up_ne _ _ e]; exact a7 p (by omega)
theorem num_no {t : Nat → Int32} {T p n : Nat} (h8 : n ≤ 8) (hk : tkK t T p = 20) (h : ¬ (tkK t T p = 20 ∧ tkV t T p < nI n)) : pIx n (tkV t T p) = none := by
  refine pIx_no h8 ?_
  rintro ⟨P, hP, e⟩
  exact h ⟨hk, by rw [e]; exact (nI_ltI (by omega) (by omega)).mpr hP⟩
set_option maxHeartbeats 4000000 in
set_option maxRecDepth 100000 in
theorem c_X4_takesGrind {l : Launch} {X : Gx} {M : MS} {q nu : Nat → Nat → Int32} {vc : Nat → Nat → Nat → Int32} {sb : Nat → Nat → Int32} {by_ : Nat → Int32} {sh : Nat → Nat → Int32} {nn : Nat → Nat → Int64} {fo : Nat → Int32} {kp : Int32} {T : Nat} (hT : T ≤ 120) {p : Nat} (hp1 : p ≤ T) {m : Nat → Int32} {n : Nat} {q2 n2 : Nat → Int32} {v2 : Nat → Nat → Int32} (hQ : qR m n q2 n2 v2) : Ci l X yX4_takesGrind cX4_takesGrind 3 (some .boolean) (rmk 3 64) [.ref (ga X 35), .ref (ga X (1 + 11 * 2))] (ch X M (va_up q 2 q2) (va_up nu 2 n2) (va_up vc 2 v2) sb (iv [nI T, tkC by_ T (p), nI (tkS by_ T (p)), nI (tkE by_ T (p))]) by_ sh nn fo kp) (fun z g => (∃ m' p' k' a' b' c', p' ≤ T ∧ griI by_ T n m (tkE by_ T p) = .inr (m', p') ∧ qR m' k' a' b' c' ∧ z = 1 ∧ g = ch X M (va_up q 2 a') (va_up nu 2 b') (va_up vc 2 c') sb (iv [nI T, tkC by_ T (p'), nI (tkS by_ T (p')), nI (tkE by_ T (p'))]) by_ sh nn fo kp) ∨ (∃ p' a' b' c', p' ≤ T ∧ griI by_ T n m (tkE by_ T p) = .inl p' ∧ z = 0 ∧ g = ch X M (va_up q 2 a') (va_up nu 2 b') (va_up vc 2 c') sb (iv [nI T, tkC by_ T (p'), nI (tkS by_ T (p')), nI (tkE by_ T (p'))]) by_ sh nn fo kp)) := by
  refine ct_z (own := RX4) (lv := [some (.ref (ga X 35)), some (.ref (ga X (1 + 11 * 2))), none]) (by decide) rfl (Nat.le_of_ble_eq_true rfl) (Nat.le_of_ble_eq_true rfl) rfl (fun C hC hR => ?_)
  have hR0 := hQ
  obtain ⟨h8, hm1, hN, hd, hnu, hvv, hok⟩ := hR0
  have hE := (tkE_le (t := by_) hp1).2
  have hE2 := (tkE_le (t := by_) hE).2
  have hcnt : va_up q 2 q2 2 1 = nI n := by rw [va_up_self]; exact hN
  refine v_aload_n hC rfl dX4_takesGrind_0 (q := 1) rfl ?_
  refine v_Vv hC lkV_X4_27 (c_X3_step hT (by first | assumption | omega)) rfl (by decide) (k := 35) (by decide) ch_35v rfl rfl (Nat.le_of_ble_eq_true rfl) dX4_takesGrind_1 (q := 4) rfl ?_
  rintro _ rfl
  refine v_aload_n hC rfl dX4_takesGrind_4 (q := 5) rfl ?_
  refine v_aload_n hC rfl dX4_takesGrind_5 (q := 6) rfl ?_
  refine v_getN hC nl_X4_83 (k := 1 + 11 * 2) (by decide) (ch_q (b := 2) (by decide)) rfl dX4_takesGrind_6 (q := 9) rfl ?_
  rw [hcnt]
  refine v_Vi hC lkV_X4_69 (c_X3_isAtNumberBelow hT hE (B := n) (by omega)) rfl (by decide) (k := 35) (by decide) ch_35v rfl rfl (Nat.le_of_ble_eq_true rfl) dX4_takesGrind_9 (q := 12) rfl ?_
  rintro _ _ ⟨⟨⟨v9, hk9, hv9, hb9, hn9⟩, rfl⟩ | ⟨hc9, rfl⟩, rfl⟩
  · refine v_if_ne hC dX4_takesGrind_12 (t := 17) rfl (q := 15) rfl (fun _ => ?_) (fun h => absurd h (by decide))
    refine v_aload_n hC rfl dX4_takesGrind_17 (q := 18) rfl ?_
    refine v_getN hC nl_X4_88 (k := 1 + 11 * 2) (by decide) (ch_q (b := 2) (by decide)) rfl dX4_takesGrind_18 (q := 21) rfl ?_
    refine v_aload_n hC rfl dX4_takesGrind_21 (q := 22) rfl ?_
    refine v_Vi hC lkV_X4_73 (by have hh := c_X3_number (l := l) (X := X) (M := M) (q := va_up q 2 q2) (nu := va_up nu 2 n2) (vc := va_up vc 2 v2) (sb := sb) (by_ := by_) (sh := sh) (nn := nn) (fo := fo) (kp := kp) (t0 := nI T) (t1 := tkC by_ T (tkE by_ T p)) (s := tkS by_ T (tkE by_ T p)) (len := tkE by_ T (tkE by_ T p) - tkS by_ T (tkE by_ T p)) (by have := tkE_le (t := by_) hE; omega); rw [← (show tkE by_ T (tkE by_ T p) = tkS by_ T (tkE by_ T p) + (tkE by_ T (tkE by_ T p) - tkS by_ T (tkE by_ T p)) by have := tkE_le (t := by_) hE; omega)] at hh; exact hh) rfl (by decide) (k := 35) (by decide) ch_35v rfl rfl (Nat.le_of_ble_eq_true rfl) dX4_takesGrind_22 (q := 25) rfl ?_
    rintro _ _ ⟨rfl, rfl⟩
    rw [hn9]
    refine v_aald hC 2 (k := 2 + 11 * 2) (by decide) (ch_p (b := 2) (by decide)) rfl (ix8' (by omega)) (j := v9) (nI_clamp (by omega)) rfl dX4_takesGrind_25 (q := 26) rfl ?_
    refine v_astore_2 hC rfl dX4_takesGrind_26 (q := 27) rfl ?_
    refine v_aload_n hC rfl dX4_takesGrind_27 (q := 28) rfl ?_
    refine v_getN hC nl_X4_86 (k := 4 + 11 * 2 + v9) (by omega) (ch_o (b := 2) (k := v9) (by decide) (Or.inl (by omega))) rfl dX4_takesGrind_28 (q := 31) rfl ?_
    refine v_iconst hC (v := (-1)) rfl dX4_takesGrind_31 (q := 32) rfl ?_
    refine v_icmp_ne hC dX4_takesGrind_32 (t := 37) rfl (q := 35) rfl (fun h32 => ?_) (fun h32 => ?_)
    · refine v_aload_n hC rfl dX4_takesGrind_37 (q := 38) rfl ?_
      refine v_Vv hC lkV_X4_92 (c_X0_haveGround_F (q := 4 + 11 * 2 + v9) (by omega) (ch_o (by decide) (Or.inl (by omega))) (by rw [va_up_self]; exact hok _ hb9)) rfl (by decide) (k := 4 + 11 * 2 + v9) (by omega) (ch_o (b := 2) (k := v9) (by decide) (Or.inl (by omega))) rfl rfl (Nat.le_of_ble_eq_true rfl) dX4_takesGrind_38 (q := 41) rfl ?_
      rintro _ rfl
      rw [ch_set (by decide) (Or.inl (by omega)), up_same rfl]
      simp only [up_up, va_up_self]
      refine v_aload_n hC rfl dX4_takesGrind_41 (q := 42) rfl ?_
      refine v_Vv hC lkV_X4_27 (c_X3_step hT (by first | assumption | omega)) rfl (by decide) (k := 35) (by decide) ch_35v rfl rfl (Nat.le_of_ble_eq_true rfl) dX4_takesGrind_42 (q := 45) rfl ?_
      rintro _ rfl
      refine v_iconst hC (v := 1) rfl dX4_takesGrind_45 (q := 46) rfl ?_
      refine hR _ _ _ _ ?_ (by first | rfl | decide | assumption) dX4_takesGrind_46
      refine Or.inl ⟨_, _, n, _, _, _, hE2, ?_, qR_one (m' := groundM m v9) hQ hb9 groundM_0 groundM_1 (by rw [pv_grd, ← hvv _ hb9]) (fun p hp => pv_grdn hp) (okV_grd (hok _ hb9)), rfl, rfl⟩
      have hat : ¬ pv m v9 2 < 0 := by
        have h1 := (hok _ hb9).2.2.1
        rw [va_up_self] at h32
        rw [← hvv _ hb9]
        grind
      rw [griI, if_pos hk9, hv9, pIx_nI hb9 h8]
      dsimp only
      rw [if_neg hat]
    · refine v_iconst hC (v := 0) rfl dX4_takesGrind_35 (q := 36) rfl ?_
      refine hR _ _ _ _ ?_ (by first | rfl | decide | assumption) dX4_takesGrind_36
      refine Or.inr ⟨_, _, _, _, hE, ?_, rfl, rfl⟩
      rw [va_up_self, hvv _ hb9] at h32
      rw [griI, if_pos hk9, hv9, pIx_nI hb9 h8]
      dsimp only
      rw [if_pos (by rw [h32]; decide)]
  · refine v_if_ne hC dX4_takesGrind_12 (t := 17) rfl (q := 15) rfl (fun h => absurd h (by decide)) (fun _ => ?_)
    refine v_iconst hC (v := 0) rfl dX4_takesGrind_15 (q := 16) rfl ?_
    refine hR _ _ _ _ ?_ (by first | rfl | decide | assumption) dX4_takesGrind_16
    refine Or.inr ⟨_, _, _, _, hE, ?_, rfl, rfl⟩
    unfold griI
    split
    · rename_i hk
      rw [num_no h8 hk hc9]
    · rfl

set_option maxHeartbeats 4000000 in
set_option maxRecDepth 100000 in
theorem c_X4_takesUp {l : Launch} {X : Gx} {M : MS} {q nu : Nat → Nat → Int32} {vc : Nat → Nat → Nat → Int32} {sb : Nat → Nat → Int32} {by_ : Nat → Int32} {sh : Nat → Nat → Int32} {nn : Nat → Nat → Int64} {fo : Nat → Int32} {kp : Int32} {T : Nat} (hT : T ≤ 120) {p : Nat} (hp1 : p ≤ T) {m : Nat → Int32} {n : Nat} {q2 n2 : Nat → Int32} {v2 : Nat → Nat → Int32} (hQ : qR m n q2 n2 v2) {x : Int32} (hx : x = 0 ∨ x = 1) : Ci l X yX4_takesUp cX4_takesUp 3 (some .boolean) (rmk 3 64) [.ref (ga X 35), .ref (ga X (1 + 11 * 2)), .int x] (ch X M (va_up q 2 q2) (va_up nu 2 n2) (va_up vc 2 v2) sb (iv [nI T, tkC by_ T (p), nI (tkS by_ T (p)), nI (tkE by_ T (p))]) by_ sh nn fo kp) (fun z g => (∃ m' p' k' a' b' c', p' ≤ T ∧ upI by_ T n m (tkE by_ T p) x = .inr (m', p') ∧ qR m' k' a' b' c' ∧ z = 1 ∧ g = ch X M (va_up q 2 a') (va_up nu 2 b') (va_up vc 2 c') sb (iv [nI T, tkC by_ T (p'), nI (tkS by_ T (p')), nI (tkE by_ T (p'))]) by_ sh nn fo kp) ∨ (∃ p' a' b' c', p' ≤ T ∧ upI by_ T n m (tkE by_ T p) x = .inl p' ∧ z = 0 ∧ g = ch X M (va_up q 2 a') (va_up nu 2 b') (va_up vc 2 c') sb (iv [nI T, tkC by_ T (p'), nI (tkS by_ T (p')), nI (tkE by_ T (p'))]) by_ sh nn fo kp)) := by
  refine ct_z (own := RX4) (lv := [some (.ref (ga X 35)), some (.ref (ga X (1 + 11 * 2))), some (.int x)]) (by decide) rfl (Nat.le_of_ble_eq_true rfl) (Nat.le_of_ble_eq_true rfl) rfl (fun C hC hR => ?_)
  have hR0 := hQ
  obtain ⟨h8, hm1, hN, hd, hnu, hvv, hok⟩ := hR0
  have hE := (tkE_le (t := by_) hp1).2
  have hE2 := (tkE_le (t := by_) hE).2
  have hcnt : va_up q 2 q2 2 1 = nI n := by rw [va_up_self]; exact hN
  refine v_aload_n hC rfl dX4_takesUp_0 (q := 1) rfl ?_
  refine v_Vv hC lkV_X4_27 (c_X3_step hT (by first | assumption | omega)) rfl (by decide) (k := 35) (by decide) ch_35v rfl rfl (Nat.le_of_ble_eq_true rfl) dX4_takesUp_1 (q := 4) rfl ?_
  rintro _ rfl
  refine v_aload_n hC rfl dX4_takesUp_4 (q := 5) rfl ?_
  refine v_aload_n hC rfl dX4_takesUp_5 (q := 6) rfl ?_
  refine v_getN hC nl_X4_83 (k := 1 + 11 * 2) (by decide) (ch_q (b := 2) (by decide)) rfl dX4_takesUp_6 (q := 9) rfl ?_
  rw [hcnt]
  refine v_Vi hC lkV_X4_69 (c_X3_isAtNumberBelow hT hE (B := n) (by omega)) rfl (by decide) (k := 35) (by decide) ch_35v rfl rfl (Nat.le_of_ble_eq_true rfl) dX4_takesUp_9 (q := 12) rfl ?_
  rintro _ _ ⟨⟨⟨v9, hk9, hv9, hb9, hn9⟩, rfl⟩ | ⟨hc9, rfl⟩, rfl⟩
  · refine v_if_ne hC dX4_takesUp_12 (t := 17) rfl (q := 15) rfl (fun _ => ?_) (fun h => absurd h (by decide))
    refine v_aload_n hC rfl dX4_takesUp_17 (q := 18) rfl ?_
    refine v_getN hC nl_X4_88 (k := 1 + 11 * 2) (by decide) (ch_q (b := 2) (by decide)) rfl dX4_takesUp_18 (q := 21) rfl ?_
    refine v_aload_n hC rfl dX4_takesUp_21 (q := 22) rfl ?_
    refine v_Vi hC lkV_X4_73 (by have hh := c_X3_number (l := l) (X := X) (M := M) (q := va_up q 2 q2) (nu := va_up nu 2 n2) (vc := va_up vc 2 v2) (sb := sb) (by_ := by_) (sh := sh) (nn := nn) (fo := fo) (kp := kp) (t0 := nI T) (t1 := tkC by_ T (tkE by_ T p)) (s := tkS by_ T (tkE by_ T p)) (len := tkE by_ T (tkE by_ T p) - tkS by_ T (tkE by_ T p)) (by have := tkE_le (t := by_) hE; omega); rw [← (show tkE by_ T (tkE by_ T p) = tkS by_ T (tkE by_ T p) + (tkE by_ T (tkE by_ T p) - tkS by_ T (tkE by_ T p)) by have := tkE_le (t := by_) hE; omega)] at hh; exact hh) rfl (by decide) (k := 35) (by decide) ch_35v rfl rfl (Nat.le_of_ble_eq_true rfl) dX4_takesUp_22 (q := 25) rfl ?_
    rintro _ _ ⟨rfl, rfl⟩
    rw [hn9]
    refine v_aald hC 2 (k := 2 + 11 * 2) (by decide) (ch_p (b := 2) (by decide)) rfl (ix8' (by omega)) (j := v9) (nI_clamp (by omega)) rfl dX4_takesUp_25 (q := 26) rfl ?_
    refine v_iload_n hC rfl dX4_takesUp_26 (q := 27) rfl ?_
    refine v_putN hC nl_X4_95 pt_0_4 (k := 4 + 11 * 2 + v9) (by omega) (ch_o (b := 2) (k := v9) (by decide) (Or.inl (by omega))) (Nat.le_of_ble_eq_true rfl) rfl rfl (ch_of3 (by decide) (Or.inl (by omega)) _) dX4_takesUp_27 (q := 30) rfl ?_
    simp only [up_up, va_up_self]
    refine v_aload_n hC rfl dX4_takesUp_30 (q := 31) rfl ?_
    refine v_Vv hC lkV_X4_27 (c_X3_step hT (by first | assumption | omega)) rfl (by decide) (k := 35) (by decide) ch_35v rfl rfl (Nat.le_of_ble_eq_true rfl) dX4_takesUp_31 (q := 34) rfl ?_
    rintro _ rfl
    refine v_iconst hC (v := 1) rfl dX4_takesUp_34 (q := 35) rfl ?_
    refine hR _ _ _ _ ?_ (by first | rfl | decide | assumption) dX4_takesUp_35
    refine Or.inl ⟨_, _, n, _, _, _, hE2, ?_, qR_one (m' := pu m v9 3 x) hQ hb9 pu_0 pu_1 (by rw [pv_pu (by decide), ← hvv _ hb9]) (fun p hp => pv_ne (by decide) hp) (okV_3 (hok _ hb9) hx), rfl, rfl⟩
    rw [upI, if_pos hk9, hv9, pIx_nI hb9 h8]
  · refine v_if_ne hC dX4_takesUp_12 (t := 17) rfl (q := 15) rfl (fun h => absurd h (by decide)) (fun _ => ?_)
    refine v_iconst hC (v := 0) rfl dX4_takesUp_15 (q := 16) rfl ?_
    refine hR _ _ _ _ ?_ (by first | rfl | decide | assumption) dX4_takesUp_16
    refine Or.inr ⟨_, _, _, _, hE, ?_, rfl, rfl⟩
    unfold upI
    split
    · rename_i hk
      rw [num_no h8 hk hc9]
    · rfl
